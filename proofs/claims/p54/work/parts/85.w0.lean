section VWRB
theorem dL_make_0 : decode cL_make 0 = .ok (.aload 6, 2) := by decide +kernel
theorem dL_make_2 : decode cL_make 2 = .ok (.iconst 0, 1) := by decide +kernel
theorem dL_make_3 : decode cL_make 3 = .ok (.aload_n 0, 1) := by decide +kernel
theorem dL_make_4 : decode cL_make 4 = .ok (.iload_n 1, 1) := by decide +kernel
theorem dL_make_5 : decode cL_make 5 = .ok (.iload_n 2, 1) := by decide +kernel
theorem dL_make_6 : decode cL_make 6 = .ok (.iload_n 3, 1) := by decide +kernel
theorem dL_make_7 : decode cL_make 7 = .ok (.iload 4, 2) := by decide +kernel
theorem dL_make_9 : decode cL_make 9 = .ok (.iload 5, 2) := by decide +kernel
theorem dL_make_11 : decode cL_make 11 = .ok (.invokevirtual 7, 3) := by decide +kernel
theorem dL_make_14 : decode cL_make 14 = .ok (.i2l, 1) := by decide +kernel
theorem dL_make_15 : decode cL_make 15 = .ok (.lastore, 1) := by decide +kernel
theorem dL_make_16 : decode cL_make 16 = .ok (.goto 11, 3) := by decide +kernel
theorem dL_make_19 : decode cL_make 19 = .ok (.astore 7, 2) := by decide +kernel
theorem dL_make_21 : decode cL_make 21 = .ok (.iconst 1, 1) := by decide +kernel
theorem dL_make_22 : decode cL_make 22 = .ok (.ireturn, 1) := by decide +kernel
theorem dL_make_23 : decode cL_make 23 = .ok (.astore 7, 2) := by decide +kernel
theorem dL_make_25 : decode cL_make 25 = .ok (.iconst 2, 1) := by decide +kernel
theorem dL_make_26 : decode cL_make 26 = .ok (.ireturn, 1) := by decide +kernel
theorem dL_make_27 : decode cL_make 27 = .ok (.iconst 0, 1) := by decide +kernel
theorem dL_make_28 : decode cL_make 28 = .ok (.ireturn, 1) := by decide +kernel
set_option maxRecDepth 100000 in
set_option maxHeartbeats 4000000 in
theorem w_make (l : Launch) (D : va_G) (cy : Nat → ClassId) (hst : l.stackTraces = false) {ad τ : List Nat} {w : va_W} (sz oa : Nat) (f : Nat → Int64) (hs : vi_s1 vSG τ) (ht : vi_tw vK cy (fun _ => True) ad τ w) {x0 q0 : Nat} (hr0 : τ[q0]? = some 0) (hr1 : ad[q0]? = some x0) (x1 : Int32) (hx1 : 0 ≤ x1.toInt ∧ x1.toInt ≤ 65535) (x2 : Int32) (x3 : Int32) (x4 : Int32) (hx4 : 0 ≤ x4.toInt ∧ x4.toInt ≤ 1) (x5 : Int32) : vw_M l D cy vK ad τ oa f w sz q_Hubcascade_make_0.2.2.2.1 yL_make (Cond.codeWith yL_make cL_make 8 (some .int) [(0, 16, 19, 13), (0, 16, 23, 15)] :: lWall) 7 1 116 [.ref x0, .int x1, .int x2, .int x3, .int x4, .int x5, .ref oa] := by
  refine wr_ofW (cc := cL_make) (maxL := 8) (ret := (some .int)) (hh := [(0, 16, 19, 13), (0, 16, 23, 15)]) (lv := [(0, .ref x0), (1, .int x1), (2, .int x2), (3, .int x3), (4, .int x4), (5, .int x5), (6, .ref oa)]) (by decide) rfl (Nat.le_of_ble_eq_true rfl) rfl ?_
  intro p e s m below meth c ls hx hb hr hml hown hlocks htab hts hv hl
  have hown : s.vm.findClass RL = some m.cls := hown
  obtain ⟨⟨⟨hsz, hP, hD0⟩, hK, hN⟩, hT⟩ := hv
  subst hsz
  have hD := hD0.self (sz := s.heap.size)
  generalize hAe : va_A ((oa, .inl (cy 2, 1, .inr (.inl f))) :: w) s.heap.size = A at hD hT ⊢
  have hA : ∀ q : Nat, s.heap.size ≤ q → A q := fun q h => by rw [← hAe]; exact Or.inr h
  have hS : va_S A s.heap s.heap [] := va_S.rf
  have hP : va_P D vwCl ([(oa, .inl (cy 2, 1, .inr (.inl f)))] ++ w) s.heap := hP
  have hD : va_D A ([(oa, .inl (cy 2, 1, .inr (.inl f)))] ++ w) := hD
  have S : CallFix p m c cL_make 8 s _ (_ :: lWall) RL := ⟨hx, hb, hml, hown, hts⟩
  refine lv_aload hx hb dL_make_0 (lv_at hl 6 rfl) ?_
  refine lv_iconst (v := 0) hx hb dL_make_2 (by decide) ?_
  refine lv_aload_n hx hb dL_make_3 rfl (lv_at hl 0 rfl) ?_
  refine lv_iload_n hx hb dL_make_4 rfl (lv_at hl 1 rfl) ?_
  refine lv_iload_n hx hb dL_make_5 rfl (lv_at hl 2 rfl) ?_
  refine lv_iload_n hx hb dL_make_6 rfl (lv_at hl 3 rfl) ?_
  refine lv_iload hx hb dL_make_7 (lv_at hl 4 rfl) ?_
  refine lv_iload hx hb dL_make_9 (lv_at hl 5 rfl) ?_
  refine vi_catchV (wr := [(oa, .inl (cy 2, 1, .inr (.inl f)))]) (av := [.ref x0, .int x1, .int x2, .int x3, .int x4, .int x5]) (rest := [.int 0, .ref oa]) S (m_Hubcascade_make_0 l D cy hst) (cwV 5 S.2.2.2.2 (lgV (lm_ _ (List.mem_of_getElem? (i := 1) rfl)) (lm_ _ (List.mem_of_getElem? (i := 2) rfl)) (lm_ _ (List.mem_of_getElem? (i := 3) rfl)) (lv_ _ (vm_4 _ (List.mem_of_getElem? (i := 20) rfl))) (lv_ _ (vm_4 _ (List.mem_of_getElem? (i := 13) rfl)))) rfl rfl rfl ⟨rfl, by decide, by decide, by decide +kernel⟩ ⟨Nat.le_of_ble_eq_true rfl, Nat.le_of_ble_eq_true rfl⟩) rfl ⟨_, _, _, _, _, _, rfl, rfl, rfl, rfl⟩ hK hN hs hT hP hD hS hA ht rfl ?_ (fun f hf => by cases hf) hl.1 rfl (Nat.le_of_ble_eq_true rfl) dL_make_11 ⟨Nat.le_of_ble_eq_true rfl, Nat.le_of_ble_eq_true rfl⟩ ?_ ?_
  · exact vi_tys_ok (ad := ad) (τ := τ) (as := q_Hubcascade_make_0.1) ⟨Or.inr ⟨q0, x0, hr0, hr1, rfl⟩, ⟨x1, rfl, hx1⟩, vi_okI x2, vi_okI x3, ⟨x4, rfl, hx4⟩, vi_okI x5, True.intro⟩
  · refine List.forall_mem_cons.mpr ⟨⟨[], ⟨0, 16, 19, 13⟩, [⟨0, 16, 23, 15⟩], htab, (fun _ h => absurd h List.not_mem_nil), by decide, by decide, hts _ (List.mem_cons_of_mem _ (lm_ _ (List.mem_of_getElem? (i := 0) rfl))), va_Nw.use rfl (hT.2.2.1 "java/lang/IllegalArgumentException" (by decide)), fun qx H locs w1 hP hD hS ht hk => ?_⟩, ?_⟩
    · refine lv_astore (lv' := [(7, .ref qx), (0, .ref x0), (1, .int x1), (2, .int x2), (3, .int x3), (4, .int x4), (5, .int x5), (6, .ref oa)]) hx hb dL_make_19 hl (by decide) rfl (fun ls hl => ?_)
      refine lv_iconst (v := 1) hx hb dL_make_21 (by decide) ?_
      exact W.iret hx hb hr (fun t ht9 _ => ⟨⟨_, w1, _, rfl, by rw [ht9]; exact hP, ht, hk⟩, hS.F ht9⟩) hS.2.2 dL_make_22
    refine List.forall_mem_cons.mpr ⟨⟨[⟨0, 16, 19, 13⟩], ⟨0, 16, 23, 15⟩, [], htab, (by intro z hz; simp only [List.mem_cons, List.not_mem_nil, or_false] at hz; subst hz; exact Or.inr ⟨by decide, "java/lang/IllegalArgumentException", hts _ (List.mem_cons_of_mem _ (lm_ _ (List.mem_of_getElem? (i := 0) rfl))), hT.2.2.2.2 "java/lang/IllegalStateException" (by decide) "java/lang/IllegalArgumentException" (by decide) (by decide)⟩), by decide, by decide, hts _ (List.mem_cons_of_mem _ (lm_ _ (List.mem_of_getElem? (i := 170) rfl))), va_Nw.use rfl (hT.2.2.1 "java/lang/IllegalStateException" (by decide)), fun qx H locs w1 hP hD hS ht hk => ?_⟩, ?_⟩
    · refine lv_astore (lv' := [(7, .ref qx), (0, .ref x0), (1, .int x1), (2, .int x2), (3, .int x3), (4, .int x4), (5, .int x5), (6, .ref oa)]) hx hb dL_make_23 hl (by decide) rfl (fun ls hl => ?_)
      refine lv_iconst (v := 2) hx hb dL_make_25 (by decide) ?_
      exact W.iret hx hb hr (fun t ht9 _ => ⟨⟨_, w1, _, rfl, by rw [ht9]; exact hP, ht, hk⟩, hS.F ht9⟩) hS.2.2 dL_make_26
    exact fun q hq => by cases hq
  · intro alt halt H locs w1 v hP hD hS ht hk ha
    obtain ⟨y, rfl⟩ := vw_int (by decide +kernel) halt ha
    refine lv_i2l (v := y.toInt64) hx hb dL_make_14 rfl ?_
    refine va_last hx hb hK hP hD hS 0 2 rfl rfl (by unfold vp_in; decide) dL_make_15 (fun H locs hP hD hS => ?_)
    rw [my_upd0] at hP
    have hP : va_P D vwCl ((oa, .inl (cy 2, 1, .inr (.inl (vp_updL f 0 y.toInt64)))) :: w1) H := hP
    refine lv_goto (tgt := 27) hx hb dL_make_16 (by decide) ?_
    refine lv_iconst (v := 0) hx hb dL_make_27 (by decide) ?_
    exact W.iret hx hb hr (fun t ht9 _ => ⟨⟨_, w1, _, rfl, by rw [ht9]; exact hP, ht, hk⟩, hS.F ht9⟩) hS.2.2 dL_make_28

theorem dL_endpoint_0 : decode cL_endpoint 0 = .ok (.aload 5, 2) := by decide +kernel
theorem dL_endpoint_2 : decode cL_endpoint 2 = .ok (.iconst 0, 1) := by decide +kernel
theorem dL_endpoint_3 : decode cL_endpoint 3 = .ok (.aload_n 0, 1) := by decide +kernel
theorem dL_endpoint_4 : decode cL_endpoint 4 = .ok (.iload_n 1, 1) := by decide +kernel
theorem dL_endpoint_5 : decode cL_endpoint 5 = .ok (.iload_n 2, 1) := by decide +kernel
theorem dL_endpoint_6 : decode cL_endpoint 6 = .ok (.iload_n 3, 1) := by decide +kernel
theorem dL_endpoint_7 : decode cL_endpoint 7 = .ok (.iload 4, 2) := by decide +kernel
theorem dL_endpoint_9 : decode cL_endpoint 9 = .ok (.invokevirtual 17, 3) := by decide +kernel
theorem dL_endpoint_12 : decode cL_endpoint 12 = .ok (.i2l, 1) := by decide +kernel
theorem dL_endpoint_13 : decode cL_endpoint 13 = .ok (.lastore, 1) := by decide +kernel
theorem dL_endpoint_14 : decode cL_endpoint 14 = .ok (.goto 15, 3) := by decide +kernel
theorem dL_endpoint_17 : decode cL_endpoint 17 = .ok (.astore 6, 2) := by decide +kernel
theorem dL_endpoint_19 : decode cL_endpoint 19 = .ok (.iconst 1, 1) := by decide +kernel
theorem dL_endpoint_20 : decode cL_endpoint 20 = .ok (.ireturn, 1) := by decide +kernel
theorem dL_endpoint_21 : decode cL_endpoint 21 = .ok (.astore 6, 2) := by decide +kernel
theorem dL_endpoint_23 : decode cL_endpoint 23 = .ok (.iconst 2, 1) := by decide +kernel
theorem dL_endpoint_24 : decode cL_endpoint 24 = .ok (.ireturn, 1) := by decide +kernel
theorem dL_endpoint_25 : decode cL_endpoint 25 = .ok (.astore 6, 2) := by decide +kernel
theorem dL_endpoint_27 : decode cL_endpoint 27 = .ok (.iconst 3, 1) := by decide +kernel
theorem dL_endpoint_28 : decode cL_endpoint 28 = .ok (.ireturn, 1) := by decide +kernel
theorem dL_endpoint_29 : decode cL_endpoint 29 = .ok (.iconst 0, 1) := by decide +kernel
theorem dL_endpoint_30 : decode cL_endpoint 30 = .ok (.ireturn, 1) := by decide +kernel
set_option maxRecDepth 100000 in
set_option maxHeartbeats 4000000 in
theorem w_endpoint (l : Launch) (D : va_G) (cy : Nat → ClassId) (hst : l.stackTraces = false) {ad τ : List Nat} {w : va_W} (sz oa : Nat) (f : Nat → Int64) (hs : vi_s1 vSG τ) (ht : vi_tw vK cy (fun _ => True) ad τ w) {x0 q0 : Nat} (hr0 : τ[q0]? = some 0) (hr1 : ad[q0]? = some x0) (x1 : Int32) (x2 : Int32) (x3 : Int32) (hx3 : 0 ≤ x3.toInt ∧ x3.toInt ≤ 1) (x4 : Int32) : vw_M l D cy vK ad τ oa f w sz q_Hubcascade_endpoint_0.2.2.2.1 yL_endpoint (Cond.codeWith yL_endpoint cL_endpoint 7 (some .int) [(0, 14, 17, 21), (0, 14, 21, 13), (0, 14, 25, 23)] :: lWall) 8 2 137 [.ref x0, .int x1, .int x2, .int x3, .int x4, .ref oa] := by
  refine wr_ofW (cc := cL_endpoint) (maxL := 7) (ret := (some .int)) (hh := [(0, 14, 17, 21), (0, 14, 21, 13), (0, 14, 25, 23)]) (lv := [(0, .ref x0), (1, .int x1), (2, .int x2), (3, .int x3), (4, .int x4), (5, .ref oa)]) (by decide) rfl (Nat.le_of_ble_eq_true rfl) rfl ?_
  intro p e s m below meth c ls hx hb hr hml hown hlocks htab hts hv hl
  have hown : s.vm.findClass RL = some m.cls := hown
  obtain ⟨⟨⟨hsz, hP, hD0⟩, hK, hN⟩, hT⟩ := hv
  subst hsz
  have hD := hD0.self (sz := s.heap.size)
  generalize hAe : va_A ((oa, .inl (cy 2, 1, .inr (.inl f))) :: w) s.heap.size = A at hD hT ⊢
  have hA : ∀ q : Nat, s.heap.size ≤ q → A q := fun q h => by rw [← hAe]; exact Or.inr h
  have hS : va_S A s.heap s.heap [] := va_S.rf
  have hP : va_P D vwCl ([(oa, .inl (cy 2, 1, .inr (.inl f)))] ++ w) s.heap := hP
  have hD : va_D A ([(oa, .inl (cy 2, 1, .inr (.inl f)))] ++ w) := hD
  have S : CallFix p m c cL_endpoint 7 s _ (_ :: lWall) RL := ⟨hx, hb, hml, hown, hts⟩
  refine lv_aload hx hb dL_endpoint_0 (lv_at hl 5 rfl) ?_
  refine lv_iconst (v := 0) hx hb dL_endpoint_2 (by decide) ?_
  refine lv_aload_n hx hb dL_endpoint_3 rfl (lv_at hl 0 rfl) ?_
  refine lv_iload_n hx hb dL_endpoint_4 rfl (lv_at hl 1 rfl) ?_
  refine lv_iload_n hx hb dL_endpoint_5 rfl (lv_at hl 2 rfl) ?_
  refine lv_iload_n hx hb dL_endpoint_6 rfl (lv_at hl 3 rfl) ?_
  refine lv_iload hx hb dL_endpoint_7 (lv_at hl 4 rfl) ?_
  refine vi_catchV (wr := [(oa, .inl (cy 2, 1, .inr (.inl f)))]) (av := [.ref x0, .int x1, .int x2, .int x3, .int x4]) (rest := [.int 0, .ref oa]) S (m_Hubcascade_endpoint_0 l D cy hst) (cwV 4 S.2.2.2.2 (lgV (lm_ _ (List.mem_of_getElem? (i := 6) rfl)) (lm_ _ (List.mem_of_getElem? (i := 7) rfl)) (lm_ _ (List.mem_of_getElem? (i := 8) rfl)) (lv_ _ (vm_4 _ (List.mem_of_getElem? (i := 20) rfl))) (lv_ _ (vm_4 _ (List.mem_of_getElem? (i := 26) rfl)))) rfl rfl rfl ⟨rfl, by decide, by decide, by decide +kernel⟩ ⟨Nat.le_of_ble_eq_true rfl, Nat.le_of_ble_eq_true rfl⟩) rfl ⟨_, _, _, _, _, _, rfl, rfl, rfl, rfl⟩ hK hN hs hT hP hD hS hA ht rfl ?_ (fun f hf => by cases hf) hl.1 rfl (Nat.le_of_ble_eq_true rfl) dL_endpoint_9 ⟨Nat.le_of_ble_eq_true rfl, Nat.le_of_ble_eq_true rfl⟩ ?_ ?_
  · exact vi_tys_ok (ad := ad) (τ := τ) (as := q_Hubcascade_endpoint_0.1) ⟨Or.inr ⟨q0, x0, hr0, hr1, rfl⟩, vi_okI x1, vi_okI x2, ⟨x3, rfl, hx3⟩, vi_okI x4, True.intro⟩
  · refine List.forall_mem_cons.mpr ⟨⟨[], ⟨0, 14, 17, 21⟩, [⟨0, 14, 21, 13⟩, ⟨0, 14, 25, 23⟩], htab, (fun _ h => absurd h List.not_mem_nil), by decide, by decide, hts _ (List.mem_cons_of_mem _ (lm_ _ (List.mem_of_getElem? (i := 5) rfl))), va_Nw.use rfl (hT.2.2.1 "java/lang/IndexOutOfBoundsException" (by decide)), fun qx H locs w1 hP hD hS ht hk => ?_⟩, ?_⟩
    · refine lv_astore (lv' := [(6, .ref qx), (0, .ref x0), (1, .int x1), (2, .int x2), (3, .int x3), (4, .int x4), (5, .ref oa)]) hx hb dL_endpoint_17 hl (by decide) rfl (fun ls hl => ?_)
      refine lv_iconst (v := 1) hx hb dL_endpoint_19 (by decide) ?_
      exact W.iret hx hb hr (fun t ht9 _ => ⟨⟨_, w1, _, rfl, by rw [ht9]; exact hP, ht, hk⟩, hS.F ht9⟩) hS.2.2 dL_endpoint_20
    refine List.forall_mem_cons.mpr ⟨⟨[⟨0, 14, 17, 21⟩], ⟨0, 14, 21, 13⟩, [⟨0, 14, 25, 23⟩], htab, (by intro z hz; simp only [List.mem_cons, List.not_mem_nil, or_false] at hz; subst hz; exact Or.inr ⟨by decide, "java/lang/IndexOutOfBoundsException", hts _ (List.mem_cons_of_mem _ (lm_ _ (List.mem_of_getElem? (i := 5) rfl))), hT.2.2.2.2 "java/lang/IllegalArgumentException" (by decide) "java/lang/IndexOutOfBoundsException" (by decide) (by decide)⟩), by decide, by decide, hts _ (List.mem_cons_of_mem _ (lm_ _ (List.mem_of_getElem? (i := 0) rfl))), va_Nw.use rfl (hT.2.2.1 "java/lang/IllegalArgumentException" (by decide)), fun qx H locs w1 hP hD hS ht hk => ?_⟩, ?_⟩
    · refine lv_astore (lv' := [(6, .ref qx), (0, .ref x0), (1, .int x1), (2, .int x2), (3, .int x3), (4, .int x4), (5, .ref oa)]) hx hb dL_endpoint_21 hl (by decide) rfl (fun ls hl => ?_)
      refine lv_iconst (v := 2) hx hb dL_endpoint_23 (by decide) ?_
      exact W.iret hx hb hr (fun t ht9 _ => ⟨⟨_, w1, _, rfl, by rw [ht9]; exact hP, ht, hk⟩, hS.F ht9⟩) hS.2.2 dL_endpoint_24
    refine List.forall_mem_cons.mpr ⟨⟨[⟨0, 14, 17, 21⟩, ⟨0, 14, 21, 13⟩], ⟨0, 14, 25, 23⟩, [], htab, (by intro z hz; simp only [List.mem_cons, List.not_mem_nil, or_false] at hz; rcases hz with rfl | rfl <;> first | exact Or.inr ⟨by decide, "java/lang/IndexOutOfBoundsException", hts _ (List.mem_cons_of_mem _ (lm_ _ (List.mem_of_getElem? (i := 5) rfl))), hT.2.2.2.2 "java/lang/UnsupportedOperationException" (by decide) "java/lang/IndexOutOfBoundsException" (by decide) (by decide)⟩ | exact Or.inr ⟨by decide, "java/lang/IllegalArgumentException", hts _ (List.mem_cons_of_mem _ (lm_ _ (List.mem_of_getElem? (i := 0) rfl))), hT.2.2.2.2 "java/lang/UnsupportedOperationException" (by decide) "java/lang/IllegalArgumentException" (by decide) (by decide)⟩), by decide, by decide, hts _ (List.mem_cons_of_mem _ (lm_ _ (List.mem_of_getElem? (i := 171) rfl))), va_Nw.use rfl (hT.2.2.1 "java/lang/UnsupportedOperationException" (by decide)), fun qx H locs w1 hP hD hS ht hk => ?_⟩, ?_⟩
    · refine lv_astore (lv' := [(6, .ref qx), (0, .ref x0), (1, .int x1), (2, .int x2), (3, .int x3), (4, .int x4), (5, .ref oa)]) hx hb dL_endpoint_25 hl (by decide) rfl (fun ls hl => ?_)
      refine lv_iconst (v := 3) hx hb dL_endpoint_27 (by decide) ?_
      exact W.iret hx hb hr (fun t ht9 _ => ⟨⟨_, w1, _, rfl, by rw [ht9]; exact hP, ht, hk⟩, hS.F ht9⟩) hS.2.2 dL_endpoint_28
    exact fun q hq => by cases hq
  · intro alt halt H locs w1 v hP hD hS ht hk ha
    obtain ⟨y, rfl⟩ := vw_int (by decide +kernel) halt ha
    refine lv_i2l (v := y.toInt64) hx hb dL_endpoint_12 rfl ?_
    refine va_last hx hb hK hP hD hS 0 2 rfl rfl (by unfold vp_in; decide) dL_endpoint_13 (fun H locs hP hD hS => ?_)
    rw [my_upd0] at hP
    have hP : va_P D vwCl ((oa, .inl (cy 2, 1, .inr (.inl (vp_updL f 0 y.toInt64)))) :: w1) H := hP
    refine lv_goto (tgt := 29) hx hb dL_endpoint_14 (by decide) ?_
    refine lv_iconst (v := 0) hx hb dL_endpoint_29 (by decide) ?_
    exact W.iret hx hb hr (fun t ht9 _ => ⟨⟨_, w1, _, rfl, by rw [ht9]; exact hP, ht, hk⟩, hS.F ht9⟩) hS.2.2 dL_endpoint_30

theorem dL_plug_0 : decode cL_plug 0 = .ok (.aload 4, 2) := by decide +kernel
theorem dL_plug_2 : decode cL_plug 2 = .ok (.iconst 0, 1) := by decide +kernel
theorem dL_plug_3 : decode cL_plug 3 = .ok (.aload_n 0, 1) := by decide +kernel
theorem dL_plug_4 : decode cL_plug 4 = .ok (.iload_n 1, 1) := by decide +kernel
theorem dL_plug_5 : decode cL_plug 5 = .ok (.iload_n 2, 1) := by decide +kernel
theorem dL_plug_6 : decode cL_plug 6 = .ok (.iload_n 3, 1) := by decide +kernel
theorem dL_plug_7 : decode cL_plug 7 = .ok (.invokevirtual 25, 3) := by decide +kernel
theorem dL_plug_10 : decode cL_plug 10 = .ok (.i2l, 1) := by decide +kernel
theorem dL_plug_11 : decode cL_plug 11 = .ok (.lastore, 1) := by decide +kernel
theorem dL_plug_12 : decode cL_plug 12 = .ok (.goto 11, 3) := by decide +kernel
theorem dL_plug_15 : decode cL_plug 15 = .ok (.astore 5, 2) := by decide +kernel
theorem dL_plug_17 : decode cL_plug 17 = .ok (.iconst 1, 1) := by decide +kernel
theorem dL_plug_18 : decode cL_plug 18 = .ok (.ireturn, 1) := by decide +kernel
theorem dL_plug_19 : decode cL_plug 19 = .ok (.astore 5, 2) := by decide +kernel
theorem dL_plug_21 : decode cL_plug 21 = .ok (.iconst 2, 1) := by decide +kernel
theorem dL_plug_22 : decode cL_plug 22 = .ok (.ireturn, 1) := by decide +kernel
theorem dL_plug_23 : decode cL_plug 23 = .ok (.iconst 0, 1) := by decide +kernel
theorem dL_plug_24 : decode cL_plug 24 = .ok (.ireturn, 1) := by decide +kernel
set_option maxRecDepth 100000 in
set_option maxHeartbeats 4000000 in
theorem w_plug (l : Launch) (D : va_G) (cy : Nat → ClassId) (hst : l.stackTraces = false) {ad τ : List Nat} {w : va_W} (sz oa : Nat) (f : Nat → Int64) (hs : vi_s1 vSG τ) (ht : vi_tw vK cy (fun _ => True) ad τ w) {x0 q0 : Nat} (hr0 : τ[q0]? = some 0) (hr1 : ad[q0]? = some x0) (x1 : Int32) (x2 : Int32) (x3 : Int32) : vw_M l D cy vK ad τ oa f w sz q_Hubcascade_plug_0.2.2.2.1 yL_plug (Cond.codeWith yL_plug cL_plug 6 (some .int) [(0, 12, 15, 21), (0, 12, 19, 23)] :: lWall) 8 3 136 [.ref x0, .int x1, .int x2, .int x3, .ref oa] := by
  refine wr_ofW (cc := cL_plug) (maxL := 6) (ret := (some .int)) (hh := [(0, 12, 15, 21), (0, 12, 19, 23)]) (lv := [(0, .ref x0), (1, .int x1), (2, .int x2), (3, .int x3), (4, .ref oa)]) (by decide) rfl (Nat.le_of_ble_eq_true rfl) rfl ?_
  intro p e s m below meth c ls hx hb hr hml hown hlocks htab hts hv hl
  have hown : s.vm.findClass RL = some m.cls := hown
  obtain ⟨⟨⟨hsz, hP, hD0⟩, hK, hN⟩, hT⟩ := hv
  subst hsz
  have hD := hD0.self (sz := s.heap.size)
  generalize hAe : va_A ((oa, .inl (cy 2, 1, .inr (.inl f))) :: w) s.heap.size = A at hD hT ⊢
  have hA : ∀ q : Nat, s.heap.size ≤ q → A q := fun q h => by rw [← hAe]; exact Or.inr h
  have hS : va_S A s.heap s.heap [] := va_S.rf
  have hP : va_P D vwCl ([(oa, .inl (cy 2, 1, .inr (.inl f)))] ++ w) s.heap := hP
  have hD : va_D A ([(oa, .inl (cy 2, 1, .inr (.inl f)))] ++ w) := hD
  have S : CallFix p m c cL_plug 6 s _ (_ :: lWall) RL := ⟨hx, hb, hml, hown, hts⟩
  refine lv_aload hx hb dL_plug_0 (lv_at hl 4 rfl) ?_
  refine lv_iconst (v := 0) hx hb dL_plug_2 (by decide) ?_
  refine lv_aload_n hx hb dL_plug_3 rfl (lv_at hl 0 rfl) ?_
  refine lv_iload_n hx hb dL_plug_4 rfl (lv_at hl 1 rfl) ?_
  refine lv_iload_n hx hb dL_plug_5 rfl (lv_at hl 2 rfl) ?_
  refine lv_iload_n hx hb dL_plug_6 rfl (lv_at hl 3 rfl) ?_
  refine vi_catchV (wr := [(oa, .inl (cy 2, 1, .inr (.inl f)))]) (av := [.ref x0, .int x1, .int x2, .int x3]) (rest := [.int 0, .ref oa]) S (m_Hubcascade_plug_0 l D cy hst) (cwV 3 S.2.2.2.2 (lgV (lm_ _ (List.mem_of_getElem? (i := 11) rfl)) (lm_ _ (List.mem_of_getElem? (i := 12) rfl)) (lm_ _ (List.mem_of_getElem? (i := 13) rfl)) (lv_ _ (vm_4 _ (List.mem_of_getElem? (i := 20) rfl))) (lv_ _ (vm_4 _ (List.mem_of_getElem? (i := 37) rfl)))) rfl rfl rfl ⟨rfl, by decide, by decide, by decide +kernel⟩ ⟨Nat.le_of_ble_eq_true rfl, Nat.le_of_ble_eq_true rfl⟩) rfl ⟨_, _, _, _, _, _, rfl, rfl, rfl, rfl⟩ hK hN hs hT hP hD hS hA ht rfl ?_ (fun f hf => by cases hf) hl.1 rfl (Nat.le_of_ble_eq_true rfl) dL_plug_7 ⟨Nat.le_of_ble_eq_true rfl, Nat.le_of_ble_eq_true rfl⟩ ?_ ?_
  · exact vi_tys_ok (ad := ad) (τ := τ) (as := q_Hubcascade_plug_0.1) ⟨Or.inr ⟨q0, x0, hr0, hr1, rfl⟩, vi_okI x1, vi_okI x2, vi_okI x3, True.intro⟩
  · refine List.forall_mem_cons.mpr ⟨⟨[], ⟨0, 12, 15, 21⟩, [⟨0, 12, 19, 23⟩], htab, (fun _ h => absurd h List.not_mem_nil), by decide, by decide, hts _ (List.mem_cons_of_mem _ (lm_ _ (List.mem_of_getElem? (i := 5) rfl))), va_Nw.use rfl (hT.2.2.1 "java/lang/IndexOutOfBoundsException" (by decide)), fun qx H locs w1 hP hD hS ht hk => ?_⟩, ?_⟩
    · refine lv_astore (lv' := [(5, .ref qx), (0, .ref x0), (1, .int x1), (2, .int x2), (3, .int x3), (4, .ref oa)]) hx hb dL_plug_15 hl (by decide) rfl (fun ls hl => ?_)
      refine lv_iconst (v := 1) hx hb dL_plug_17 (by decide) ?_
      exact W.iret hx hb hr (fun t ht9 _ => ⟨⟨_, w1, _, rfl, by rw [ht9]; exact hP, ht, hk⟩, hS.F ht9⟩) hS.2.2 dL_plug_18
    refine List.forall_mem_cons.mpr ⟨⟨[⟨0, 12, 15, 21⟩], ⟨0, 12, 19, 23⟩, [], htab, (by intro z hz; simp only [List.mem_cons, List.not_mem_nil, or_false] at hz; subst hz; exact Or.inr ⟨by decide, "java/lang/IndexOutOfBoundsException", hts _ (List.mem_cons_of_mem _ (lm_ _ (List.mem_of_getElem? (i := 5) rfl))), hT.2.2.2.2 "java/lang/UnsupportedOperationException" (by decide) "java/lang/IndexOutOfBoundsException" (by decide) (by decide)⟩), by decide, by decide, hts _ (List.mem_cons_of_mem _ (lm_ _ (List.mem_of_getElem? (i := 171) rfl))), va_Nw.use rfl (hT.2.2.1 "java/lang/UnsupportedOperationException" (by decide)), fun qx H locs w1 hP hD hS ht hk => ?_⟩, ?_⟩
    · refine lv_astore (lv' := [(5, .ref qx), (0, .ref x0), (1, .int x1), (2, .int x2), (3, .int x3), (4, .ref oa)]) hx hb dL_plug_19 hl (by decide) rfl (fun ls hl => ?_)
      refine lv_iconst (v := 2) hx hb dL_plug_21 (by decide) ?_
      exact W.iret hx hb hr (fun t ht9 _ => ⟨⟨_, w1, _, rfl, by rw [ht9]; exact hP, ht, hk⟩, hS.F ht9⟩) hS.2.2 dL_plug_22
    exact fun q hq => by cases hq
  · intro alt halt H locs w1 v hP hD hS ht hk ha
    obtain ⟨y, rfl⟩ := vw_int (by decide +kernel) halt ha
    refine lv_i2l (v := y.toInt64) hx hb dL_plug_10 rfl ?_
    refine va_last hx hb hK hP hD hS 0 2 rfl rfl (by unfold vp_in; decide) dL_plug_11 (fun H locs hP hD hS => ?_)
    rw [my_upd0] at hP
    have hP : va_P D vwCl ((oa, .inl (cy 2, 1, .inr (.inl (vp_updL f 0 y.toInt64)))) :: w1) H := hP
    refine lv_goto (tgt := 23) hx hb dL_plug_12 (by decide) ?_
    refine lv_iconst (v := 0) hx hb dL_plug_23 (by decide) ?_
    exact W.iret hx hb hr (fun t ht9 _ => ⟨⟨_, w1, _, rfl, by rw [ht9]; exact hP, ht, hk⟩, hS.F ht9⟩) hS.2.2 dL_plug_24

theorem dL_unplug_0 : decode cL_unplug 0 = .ok (.aload_n 2, 1) := by decide +kernel
theorem dL_unplug_1 : decode cL_unplug 1 = .ok (.iconst 0, 1) := by decide +kernel
theorem dL_unplug_2 : decode cL_unplug 2 = .ok (.aload_n 0, 1) := by decide +kernel
theorem dL_unplug_3 : decode cL_unplug 3 = .ok (.iload_n 1, 1) := by decide +kernel
theorem dL_unplug_4 : decode cL_unplug 4 = .ok (.invokevirtual 29, 3) := by decide +kernel
theorem dL_unplug_7 : decode cL_unplug 7 = .ok (.i2l, 1) := by decide +kernel
theorem dL_unplug_8 : decode cL_unplug 8 = .ok (.lastore, 1) := by decide +kernel
theorem dL_unplug_9 : decode cL_unplug 9 = .ok (.goto 9, 3) := by decide +kernel
theorem dL_unplug_12 : decode cL_unplug 12 = .ok (.astore_n 3, 1) := by decide +kernel
theorem dL_unplug_13 : decode cL_unplug 13 = .ok (.iconst 1, 1) := by decide +kernel
theorem dL_unplug_14 : decode cL_unplug 14 = .ok (.ireturn, 1) := by decide +kernel
theorem dL_unplug_15 : decode cL_unplug 15 = .ok (.astore_n 3, 1) := by decide +kernel
theorem dL_unplug_16 : decode cL_unplug 16 = .ok (.iconst 2, 1) := by decide +kernel
theorem dL_unplug_17 : decode cL_unplug 17 = .ok (.ireturn, 1) := by decide +kernel
theorem dL_unplug_18 : decode cL_unplug 18 = .ok (.iconst 0, 1) := by decide +kernel
theorem dL_unplug_19 : decode cL_unplug 19 = .ok (.ireturn, 1) := by decide +kernel
set_option maxRecDepth 100000 in
set_option maxHeartbeats 4000000 in
theorem w_unplug (l : Launch) (D : va_G) (cy : Nat → ClassId) (hst : l.stackTraces = false) {ad τ : List Nat} {w : va_W} (sz oa : Nat) (f : Nat → Int64) (hs : vi_s1 vSG τ) (ht : vi_tw vK cy (fun _ => True) ad τ w) {x0 q0 : Nat} (hr0 : τ[q0]? = some 0) (hr1 : ad[q0]? = some x0) (x1 : Int32) : vw_M l D cy vK ad τ oa f w sz q_Hubcascade_unplug_0.2.2.2.1 yL_unplug (Cond.codeWith yL_unplug cL_unplug 4 (some .int) [(0, 9, 12, 21), (0, 9, 15, 23)] :: lWall) 9 2 154 [.ref x0, .int x1, .ref oa] := by
  refine wr_ofW (cc := cL_unplug) (maxL := 4) (ret := (some .int)) (hh := [(0, 9, 12, 21), (0, 9, 15, 23)]) (lv := [(0, .ref x0), (1, .int x1), (2, .ref oa)]) (by decide) rfl (Nat.le_of_ble_eq_true rfl) rfl ?_
  intro p e s m below meth c ls hx hb hr hml hown hlocks htab hts hv hl
  have hown : s.vm.findClass RL = some m.cls := hown
  obtain ⟨⟨⟨hsz, hP, hD0⟩, hK, hN⟩, hT⟩ := hv
  subst hsz
  have hD := hD0.self (sz := s.heap.size)
  generalize hAe : va_A ((oa, .inl (cy 2, 1, .inr (.inl f))) :: w) s.heap.size = A at hD hT ⊢
  have hA : ∀ q : Nat, s.heap.size ≤ q → A q := fun q h => by rw [← hAe]; exact Or.inr h
  have hS : va_S A s.heap s.heap [] := va_S.rf
  have hP : va_P D vwCl ([(oa, .inl (cy 2, 1, .inr (.inl f)))] ++ w) s.heap := hP
  have hD : va_D A ([(oa, .inl (cy 2, 1, .inr (.inl f)))] ++ w) := hD
  have S : CallFix p m c cL_unplug 4 s _ (_ :: lWall) RL := ⟨hx, hb, hml, hown, hts⟩
  refine lv_aload_n hx hb dL_unplug_0 rfl (lv_at hl 2 rfl) ?_
  refine lv_iconst (v := 0) hx hb dL_unplug_1 (by decide) ?_
  refine lv_aload_n hx hb dL_unplug_2 rfl (lv_at hl 0 rfl) ?_
  refine lv_iload_n hx hb dL_unplug_3 rfl (lv_at hl 1 rfl) ?_
  refine vi_catchV (wr := [(oa, .inl (cy 2, 1, .inr (.inl f)))]) (av := [.ref x0, .int x1]) (rest := [.int 0, .ref oa]) S (m_Hubcascade_unplug_0 l D cy hst) (cwV 1 S.2.2.2.2 (lgV (lm_ _ (List.mem_of_getElem? (i := 16) rfl)) (lm_ _ (List.mem_of_getElem? (i := 17) rfl)) (lm_ _ (List.mem_of_getElem? (i := 18) rfl)) (lv_ _ (vm_4 _ (List.mem_of_getElem? (i := 20) rfl))) (lv_ _ (vm_6 _ (List.mem_of_getElem? (i := 6) rfl)))) rfl rfl rfl ⟨rfl, by decide, by decide, by decide +kernel⟩ ⟨Nat.le_of_ble_eq_true rfl, Nat.le_of_ble_eq_true rfl⟩) rfl ⟨_, _, _, _, _, _, rfl, rfl, rfl, rfl⟩ hK hN hs hT hP hD hS hA ht rfl ?_ (fun f hf => by cases hf) hl.1 rfl (Nat.le_of_ble_eq_true rfl) dL_unplug_4 ⟨Nat.le_of_ble_eq_true rfl, Nat.le_of_ble_eq_true rfl⟩ ?_ ?_
  · exact vi_tys_ok (ad := ad) (τ := τ) (as := q_Hubcascade_unplug_0.1) ⟨Or.inr ⟨q0, x0, hr0, hr1, rfl⟩, vi_okI x1, True.intro⟩
  · refine List.forall_mem_cons.mpr ⟨⟨[], ⟨0, 9, 12, 21⟩, [⟨0, 9, 15, 23⟩], htab, (fun _ h => absurd h List.not_mem_nil), by decide, by decide, hts _ (List.mem_cons_of_mem _ (lm_ _ (List.mem_of_getElem? (i := 5) rfl))), va_Nw.use rfl (hT.2.2.1 "java/lang/IndexOutOfBoundsException" (by decide)), fun qx H locs w1 hP hD hS ht hk => ?_⟩, ?_⟩
    · refine lv_astore_n (lv' := [(3, .ref qx), (0, .ref x0), (1, .int x1), (2, .ref oa)]) hx hb dL_unplug_12 rfl hl (by decide) rfl (fun ls hl => ?_)
      refine lv_iconst (v := 1) hx hb dL_unplug_13 (by decide) ?_
      exact W.iret hx hb hr (fun t ht9 _ => ⟨⟨_, w1, _, rfl, by rw [ht9]; exact hP, ht, hk⟩, hS.F ht9⟩) hS.2.2 dL_unplug_14
    refine List.forall_mem_cons.mpr ⟨⟨[⟨0, 9, 12, 21⟩], ⟨0, 9, 15, 23⟩, [], htab, (by intro z hz; simp only [List.mem_cons, List.not_mem_nil, or_false] at hz; subst hz; exact Or.inr ⟨by decide, "java/lang/IndexOutOfBoundsException", hts _ (List.mem_cons_of_mem _ (lm_ _ (List.mem_of_getElem? (i := 5) rfl))), hT.2.2.2.2 "java/lang/UnsupportedOperationException" (by decide) "java/lang/IndexOutOfBoundsException" (by decide) (by decide)⟩), by decide, by decide, hts _ (List.mem_cons_of_mem _ (lm_ _ (List.mem_of_getElem? (i := 171) rfl))), va_Nw.use rfl (hT.2.2.1 "java/lang/UnsupportedOperationException" (by decide)), fun qx H locs w1 hP hD hS ht hk => ?_⟩, ?_⟩
    · refine lv_astore_n (lv' := [(3, .ref qx), (0, .ref x0), (1, .int x1), (2, .ref oa)]) hx hb dL_unplug_15 rfl hl (by decide) rfl (fun ls hl => ?_)
      refine lv_iconst (v := 2) hx hb dL_unplug_16 (by decide) ?_
      exact W.iret hx hb hr (fun t ht9 _ => ⟨⟨_, w1, _, rfl, by rw [ht9]; exact hP, ht, hk⟩, hS.F ht9⟩) hS.2.2 dL_unplug_17
    exact fun q hq => by cases hq
  · intro alt halt H locs w1 v hP hD hS ht hk ha
    obtain ⟨y, rfl⟩ := vw_int (by decide +kernel) halt ha
    refine lv_i2l (v := y.toInt64) hx hb dL_unplug_7 rfl ?_
    refine va_last hx hb hK hP hD hS 0 2 rfl rfl (by unfold vp_in; decide) dL_unplug_8 (fun H locs hP hD hS => ?_)
    rw [my_upd0] at hP
    have hP : va_P D vwCl ((oa, .inl (cy 2, 1, .inr (.inl (vp_updL f 0 y.toInt64)))) :: w1) H := hP
    refine lv_goto (tgt := 18) hx hb dL_unplug_9 (by decide) ?_
    refine lv_iconst (v := 0) hx hb dL_unplug_18 (by decide) ?_
    exact W.iret hx hb hr (fun t ht9 _ => ⟨⟨_, w1, _, rfl, by rw [ht9]; exact hP, ht, hk⟩, hS.F ht9⟩) hS.2.2 dL_unplug_19

theorem dL_stateOf_0 : decode cL_stateOf 0 = .ok (.aload_n 2, 1) := by decide +kernel
theorem dL_stateOf_1 : decode cL_stateOf 1 = .ok (.iconst 0, 1) := by decide +kernel
theorem dL_stateOf_2 : decode cL_stateOf 2 = .ok (.aload_n 0, 1) := by decide +kernel
theorem dL_stateOf_3 : decode cL_stateOf 3 = .ok (.iload_n 1, 1) := by decide +kernel
theorem dL_stateOf_4 : decode cL_stateOf 4 = .ok (.invokevirtual 33, 3) := by decide +kernel
theorem dL_stateOf_7 : decode cL_stateOf 7 = .ok (.i2l, 1) := by decide +kernel
theorem dL_stateOf_8 : decode cL_stateOf 8 = .ok (.lastore, 1) := by decide +kernel
theorem dL_stateOf_9 : decode cL_stateOf 9 = .ok (.goto 6, 3) := by decide +kernel
theorem dL_stateOf_12 : decode cL_stateOf 12 = .ok (.astore_n 3, 1) := by decide +kernel
theorem dL_stateOf_13 : decode cL_stateOf 13 = .ok (.iconst 1, 1) := by decide +kernel
theorem dL_stateOf_14 : decode cL_stateOf 14 = .ok (.ireturn, 1) := by decide +kernel
theorem dL_stateOf_15 : decode cL_stateOf 15 = .ok (.iconst 0, 1) := by decide +kernel
theorem dL_stateOf_16 : decode cL_stateOf 16 = .ok (.ireturn, 1) := by decide +kernel
set_option maxRecDepth 100000 in
set_option maxHeartbeats 4000000 in
theorem w_stateOf (l : Launch) (D : va_G) (cy : Nat → ClassId) (hst : l.stackTraces = false) {ad τ : List Nat} {w : va_W} (sz oa : Nat) (f : Nat → Int64) (hs : vi_s1 vSG τ) (ht : vi_tw vK cy (fun _ => True) ad τ w) {x0 q0 : Nat} (hr0 : τ[q0]? = some 0) (hr1 : ad[q0]? = some x0) (x1 : Int32) : vw_M l D cy vK ad τ oa f w sz q_Hubcascade_stateOf_0.2.2.2.1 yL_stateOf (Cond.codeWith yL_stateOf cL_stateOf 4 (some .int) [(0, 9, 12, 21)] :: lWall) 8 1 132 [.ref x0, .int x1, .ref oa] := by
  refine wr_ofW (cc := cL_stateOf) (maxL := 4) (ret := (some .int)) (hh := [(0, 9, 12, 21)]) (lv := [(0, .ref x0), (1, .int x1), (2, .ref oa)]) (by decide) rfl (Nat.le_of_ble_eq_true rfl) rfl ?_
  intro p e s m below meth c ls hx hb hr hml hown hlocks htab hts hv hl
  have hown : s.vm.findClass RL = some m.cls := hown
  obtain ⟨⟨⟨hsz, hP, hD0⟩, hK, hN⟩, hT⟩ := hv
  subst hsz
  have hD := hD0.self (sz := s.heap.size)
  generalize hAe : va_A ((oa, .inl (cy 2, 1, .inr (.inl f))) :: w) s.heap.size = A at hD hT ⊢
  have hA : ∀ q : Nat, s.heap.size ≤ q → A q := fun q h => by rw [← hAe]; exact Or.inr h
  have hS : va_S A s.heap s.heap [] := va_S.rf
  have hP : va_P D vwCl ([(oa, .inl (cy 2, 1, .inr (.inl f)))] ++ w) s.heap := hP
  have hD : va_D A ([(oa, .inl (cy 2, 1, .inr (.inl f)))] ++ w) := hD
  have S : CallFix p m c cL_stateOf 4 s _ (_ :: lWall) RL := ⟨hx, hb, hml, hown, hts⟩
  refine lv_aload_n hx hb dL_stateOf_0 rfl (lv_at hl 2 rfl) ?_
  refine lv_iconst (v := 0) hx hb dL_stateOf_1 (by decide) ?_
  refine lv_aload_n hx hb dL_stateOf_2 rfl (lv_at hl 0 rfl) ?_
  refine lv_iload_n hx hb dL_stateOf_3 rfl (lv_at hl 1 rfl) ?_
  refine vi_catchV (wr := [(oa, .inl (cy 2, 1, .inr (.inl f)))]) (av := [.ref x0, .int x1]) (rest := [.int 0, .ref oa]) S (m_Hubcascade_stateOf_0 l D cy hst) (cwV 1 S.2.2.2.2 (lgV (lm_ _ (List.mem_of_getElem? (i := 29) rfl)) (lm_ _ (List.mem_of_getElem? (i := 30) rfl)) (lm_ _ (List.mem_of_getElem? (i := 31) rfl)) (lv_ _ (vm_4 _ (List.mem_of_getElem? (i := 20) rfl))) (lv_ _ (vm_6 _ (List.mem_of_getElem? (i := 7) rfl)))) rfl rfl rfl ⟨rfl, by decide, by decide, by decide +kernel⟩ ⟨Nat.le_of_ble_eq_true rfl, Nat.le_of_ble_eq_true rfl⟩) rfl ⟨_, _, _, _, _, _, rfl, rfl, rfl, rfl⟩ hK hN hs hT hP hD hS hA ht rfl ?_ (fun f hf => by cases hf) hl.1 rfl (Nat.le_of_ble_eq_true rfl) dL_stateOf_4 ⟨Nat.le_of_ble_eq_true rfl, Nat.le_of_ble_eq_true rfl⟩ ?_ ?_
  · exact vi_tys_ok (ad := ad) (τ := τ) (as := q_Hubcascade_stateOf_0.1) ⟨Or.inr ⟨q0, x0, hr0, hr1, rfl⟩, vi_okI x1, True.intro⟩
  · refine List.forall_mem_cons.mpr ⟨⟨[], ⟨0, 9, 12, 21⟩, [], htab, (fun _ h => absurd h List.not_mem_nil), by decide, by decide, hts _ (List.mem_cons_of_mem _ (lm_ _ (List.mem_of_getElem? (i := 5) rfl))), va_Nw.use rfl (hT.2.2.1 "java/lang/IndexOutOfBoundsException" (by decide)), fun qx H locs w1 hP hD hS ht hk => ?_⟩, ?_⟩
    · refine lv_astore_n (lv' := [(3, .ref qx), (0, .ref x0), (1, .int x1), (2, .ref oa)]) hx hb dL_stateOf_12 rfl hl (by decide) rfl (fun ls hl => ?_)
      refine lv_iconst (v := 1) hx hb dL_stateOf_13 (by decide) ?_
      exact W.iret hx hb hr (fun t ht9 _ => ⟨⟨_, w1, _, rfl, by rw [ht9]; exact hP, ht, hk⟩, hS.F ht9⟩) hS.2.2 dL_stateOf_14
    exact fun q hq => by cases hq
  · intro alt halt H locs w1 v hP hD hS ht hk ha
    obtain ⟨y, rfl⟩ := vw_int (by decide +kernel) halt ha
    refine lv_i2l (v := y.toInt64) hx hb dL_stateOf_7 rfl ?_
    refine va_last hx hb hK hP hD hS 0 2 rfl rfl (by unfold vp_in; decide) dL_stateOf_8 (fun H locs hP hD hS => ?_)
    rw [my_upd0] at hP
    have hP : va_P D vwCl ((oa, .inl (cy 2, 1, .inr (.inl (vp_updL f 0 y.toInt64)))) :: w1) H := hP
    refine lv_goto (tgt := 15) hx hb dL_stateOf_9 (by decide) ?_
    refine lv_iconst (v := 0) hx hb dL_stateOf_15 (by decide) ?_
    exact W.iret hx hb hr (fun t ht9 _ => ⟨⟨_, w1, _, rfl, by rw [ht9]; exact hP, ht, hk⟩, hS.F ht9⟩) hS.2.2 dL_stateOf_16

theorem dL_hubOf_0 : decode cL_hubOf 0 = .ok (.aload_n 2, 1) := by decide +kernel
theorem dL_hubOf_1 : decode cL_hubOf 1 = .ok (.iconst 0, 1) := by decide +kernel
theorem dL_hubOf_2 : decode cL_hubOf 2 = .ok (.aload_n 0, 1) := by decide +kernel
theorem dL_hubOf_3 : decode cL_hubOf 3 = .ok (.iload_n 1, 1) := by decide +kernel
theorem dL_hubOf_4 : decode cL_hubOf 4 = .ok (.invokevirtual 37, 3) := by decide +kernel
theorem dL_hubOf_7 : decode cL_hubOf 7 = .ok (.i2l, 1) := by decide +kernel
theorem dL_hubOf_8 : decode cL_hubOf 8 = .ok (.lastore, 1) := by decide +kernel
theorem dL_hubOf_9 : decode cL_hubOf 9 = .ok (.goto 6, 3) := by decide +kernel
theorem dL_hubOf_12 : decode cL_hubOf 12 = .ok (.astore_n 3, 1) := by decide +kernel
theorem dL_hubOf_13 : decode cL_hubOf 13 = .ok (.iconst 1, 1) := by decide +kernel
theorem dL_hubOf_14 : decode cL_hubOf 14 = .ok (.ireturn, 1) := by decide +kernel
theorem dL_hubOf_15 : decode cL_hubOf 15 = .ok (.iconst 0, 1) := by decide +kernel
theorem dL_hubOf_16 : decode cL_hubOf 16 = .ok (.ireturn, 1) := by decide +kernel
set_option maxRecDepth 100000 in
set_option maxHeartbeats 4000000 in
theorem w_hubOf (l : Launch) (D : va_G) (cy : Nat → ClassId) (hst : l.stackTraces = false) {ad τ : List Nat} {w : va_W} (sz oa : Nat) (f : Nat → Int64) (hs : vi_s1 vSG τ) (ht : vi_tw vK cy (fun _ => True) ad τ w) {x0 q0 : Nat} (hr0 : τ[q0]? = some 0) (hr1 : ad[q0]? = some x0) (x1 : Int32) : vw_M l D cy vK ad τ oa f w sz q_Hubcascade_hubOf_0.2.2.2.1 yL_hubOf (Cond.codeWith yL_hubOf cL_hubOf 4 (some .int) [(0, 9, 12, 21)] :: lWall) 8 1 133 [.ref x0, .int x1, .ref oa] := by
  refine wr_ofW (cc := cL_hubOf) (maxL := 4) (ret := (some .int)) (hh := [(0, 9, 12, 21)]) (lv := [(0, .ref x0), (1, .int x1), (2, .ref oa)]) (by decide) rfl (Nat.le_of_ble_eq_true rfl) rfl ?_
  intro p e s m below meth c ls hx hb hr hml hown hlocks htab hts hv hl
  have hown : s.vm.findClass RL = some m.cls := hown
  obtain ⟨⟨⟨hsz, hP, hD0⟩, hK, hN⟩, hT⟩ := hv
  subst hsz
  have hD := hD0.self (sz := s.heap.size)
  generalize hAe : va_A ((oa, .inl (cy 2, 1, .inr (.inl f))) :: w) s.heap.size = A at hD hT ⊢
  have hA : ∀ q : Nat, s.heap.size ≤ q → A q := fun q h => by rw [← hAe]; exact Or.inr h
  have hS : va_S A s.heap s.heap [] := va_S.rf
  have hP : va_P D vwCl ([(oa, .inl (cy 2, 1, .inr (.inl f)))] ++ w) s.heap := hP
  have hD : va_D A ([(oa, .inl (cy 2, 1, .inr (.inl f)))] ++ w) := hD
  have S : CallFix p m c cL_hubOf 4 s _ (_ :: lWall) RL := ⟨hx, hb, hml, hown, hts⟩
  refine lv_aload_n hx hb dL_hubOf_0 rfl (lv_at hl 2 rfl) ?_
  refine lv_iconst (v := 0) hx hb dL_hubOf_1 (by decide) ?_
  refine lv_aload_n hx hb dL_hubOf_2 rfl (lv_at hl 0 rfl) ?_
  refine lv_iload_n hx hb dL_hubOf_3 rfl (lv_at hl 1 rfl) ?_
  refine vi_catchV (wr := [(oa, .inl (cy 2, 1, .inr (.inl f)))]) (av := [.ref x0, .int x1]) (rest := [.int 0, .ref oa]) S (m_Hubcascade_hubOf_0 l D cy hst) (cwV 1 S.2.2.2.2 (lgV (lm_ _ (List.mem_of_getElem? (i := 32) rfl)) (lm_ _ (List.mem_of_getElem? (i := 33) rfl)) (lm_ _ (List.mem_of_getElem? (i := 34) rfl)) (lv_ _ (vm_4 _ (List.mem_of_getElem? (i := 20) rfl))) (lv_ _ (vm_6 _ (List.mem_of_getElem? (i := 8) rfl)))) rfl rfl rfl ⟨rfl, by decide, by decide, by decide +kernel⟩ ⟨Nat.le_of_ble_eq_true rfl, Nat.le_of_ble_eq_true rfl⟩) rfl ⟨_, _, _, _, _, _, rfl, rfl, rfl, rfl⟩ hK hN hs hT hP hD hS hA ht rfl ?_ (fun f hf => by cases hf) hl.1 rfl (Nat.le_of_ble_eq_true rfl) dL_hubOf_4 ⟨Nat.le_of_ble_eq_true rfl, Nat.le_of_ble_eq_true rfl⟩ ?_ ?_
  · exact vi_tys_ok (ad := ad) (τ := τ) (as := q_Hubcascade_hubOf_0.1) ⟨Or.inr ⟨q0, x0, hr0, hr1, rfl⟩, vi_okI x1, True.intro⟩
  · refine List.forall_mem_cons.mpr ⟨⟨[], ⟨0, 9, 12, 21⟩, [], htab, (fun _ h => absurd h List.not_mem_nil), by decide, by decide, hts _ (List.mem_cons_of_mem _ (lm_ _ (List.mem_of_getElem? (i := 5) rfl))), va_Nw.use rfl (hT.2.2.1 "java/lang/IndexOutOfBoundsException" (by decide)), fun qx H locs w1 hP hD hS ht hk => ?_⟩, ?_⟩
    · refine lv_astore_n (lv' := [(3, .ref qx), (0, .ref x0), (1, .int x1), (2, .ref oa)]) hx hb dL_hubOf_12 rfl hl (by decide) rfl (fun ls hl => ?_)
      refine lv_iconst (v := 1) hx hb dL_hubOf_13 (by decide) ?_
      exact W.iret hx hb hr (fun t ht9 _ => ⟨⟨_, w1, _, rfl, by rw [ht9]; exact hP, ht, hk⟩, hS.F ht9⟩) hS.2.2 dL_hubOf_14
    exact fun q hq => by cases hq
  · intro alt halt H locs w1 v hP hD hS ht hk ha
    obtain ⟨y, rfl⟩ := vw_int (by decide +kernel) halt ha
    refine lv_i2l (v := y.toInt64) hx hb dL_hubOf_7 rfl ?_
    refine va_last hx hb hK hP hD hS 0 2 rfl rfl (by unfold vp_in; decide) dL_hubOf_8 (fun H locs hP hD hS => ?_)
    rw [my_upd0] at hP
    have hP : va_P D vwCl ((oa, .inl (cy 2, 1, .inr (.inl (vp_updL f 0 y.toInt64)))) :: w1) H := hP
    refine lv_goto (tgt := 15) hx hb dL_hubOf_9 (by decide) ?_
    refine lv_iconst (v := 0) hx hb dL_hubOf_15 (by decide) ?_
    exact W.iret hx hb hr (fun t ht9 _ => ⟨⟨_, w1, _, rfl, by rw [ht9]; exact hP, ht, hk⟩, hS.F ht9⟩) hS.2.2 dL_hubOf_16

theorem dL_depthOf_0 : decode cL_depthOf 0 = .ok (.aload_n 2, 1) := by decide +kernel
theorem dL_depthOf_1 : decode cL_depthOf 1 = .ok (.iconst 0, 1) := by decide +kernel
theorem dL_depthOf_2 : decode cL_depthOf 2 = .ok (.aload_n 0, 1) := by decide +kernel
theorem dL_depthOf_3 : decode cL_depthOf 3 = .ok (.iload_n 1, 1) := by decide +kernel
theorem dL_depthOf_4 : decode cL_depthOf 4 = .ok (.invokevirtual 40, 3) := by decide +kernel
theorem dL_depthOf_7 : decode cL_depthOf 7 = .ok (.i2l, 1) := by decide +kernel
theorem dL_depthOf_8 : decode cL_depthOf 8 = .ok (.lastore, 1) := by decide +kernel
theorem dL_depthOf_9 : decode cL_depthOf 9 = .ok (.goto 6, 3) := by decide +kernel
theorem dL_depthOf_12 : decode cL_depthOf 12 = .ok (.astore_n 3, 1) := by decide +kernel
theorem dL_depthOf_13 : decode cL_depthOf 13 = .ok (.iconst 1, 1) := by decide +kernel
theorem dL_depthOf_14 : decode cL_depthOf 14 = .ok (.ireturn, 1) := by decide +kernel
theorem dL_depthOf_15 : decode cL_depthOf 15 = .ok (.iconst 0, 1) := by decide +kernel
theorem dL_depthOf_16 : decode cL_depthOf 16 = .ok (.ireturn, 1) := by decide +kernel
set_option maxRecDepth 100000 in
set_option maxHeartbeats 4000000 in
theorem w_depthOf (l : Launch) (D : va_G) (cy : Nat → ClassId) (hst : l.stackTraces = false) {ad τ : List Nat} {w : va_W} (sz oa : Nat) (f : Nat → Int64) (hs : vi_s1 vSG τ) (ht : vi_tw vK cy (fun _ => True) ad τ w) {x0 q0 : Nat} (hr0 : τ[q0]? = some 0) (hr1 : ad[q0]? = some x0) (x1 : Int32) : vw_M l D cy vK ad τ oa f w sz q_Hubcascade_depthOf_0.2.2.2.1 yL_depthOf (Cond.codeWith yL_depthOf cL_depthOf 4 (some .int) [(0, 9, 12, 21)] :: lWall) 8 1 132 [.ref x0, .int x1, .ref oa] := by
  refine wr_ofW (cc := cL_depthOf) (maxL := 4) (ret := (some .int)) (hh := [(0, 9, 12, 21)]) (lv := [(0, .ref x0), (1, .int x1), (2, .ref oa)]) (by decide) rfl (Nat.le_of_ble_eq_true rfl) rfl ?_
  intro p e s m below meth c ls hx hb hr hml hown hlocks htab hts hv hl
  have hown : s.vm.findClass RL = some m.cls := hown
  obtain ⟨⟨⟨hsz, hP, hD0⟩, hK, hN⟩, hT⟩ := hv
  subst hsz
  have hD := hD0.self (sz := s.heap.size)
  generalize hAe : va_A ((oa, .inl (cy 2, 1, .inr (.inl f))) :: w) s.heap.size = A at hD hT ⊢
  have hA : ∀ q : Nat, s.heap.size ≤ q → A q := fun q h => by rw [← hAe]; exact Or.inr h
  have hS : va_S A s.heap s.heap [] := va_S.rf
  have hP : va_P D vwCl ([(oa, .inl (cy 2, 1, .inr (.inl f)))] ++ w) s.heap := hP
  have hD : va_D A ([(oa, .inl (cy 2, 1, .inr (.inl f)))] ++ w) := hD
  have S : CallFix p m c cL_depthOf 4 s _ (_ :: lWall) RL := ⟨hx, hb, hml, hown, hts⟩
  refine lv_aload_n hx hb dL_depthOf_0 rfl (lv_at hl 2 rfl) ?_
  refine lv_iconst (v := 0) hx hb dL_depthOf_1 (by decide) ?_
  refine lv_aload_n hx hb dL_depthOf_2 rfl (lv_at hl 0 rfl) ?_
  refine lv_iload_n hx hb dL_depthOf_3 rfl (lv_at hl 1 rfl) ?_
  refine vi_catchV (wr := [(oa, .inl (cy 2, 1, .inr (.inl f)))]) (av := [.ref x0, .int x1]) (rest := [.int 0, .ref oa]) S (m_Hubcascade_depthOf_0 l D cy hst) (cwV 1 S.2.2.2.2 (lgV (lm_ _ (List.mem_of_getElem? (i := 35) rfl)) (lm_ _ (List.mem_of_getElem? (i := 36) rfl)) (lm_ _ (List.mem_of_getElem? (i := 37) rfl)) (lv_ _ (vm_4 _ (List.mem_of_getElem? (i := 20) rfl))) (lv_ _ (vm_6 _ (List.mem_of_getElem? (i := 9) rfl)))) rfl rfl rfl ⟨rfl, by decide, by decide, by decide +kernel⟩ ⟨Nat.le_of_ble_eq_true rfl, Nat.le_of_ble_eq_true rfl⟩) rfl ⟨_, _, _, _, _, _, rfl, rfl, rfl, rfl⟩ hK hN hs hT hP hD hS hA ht rfl ?_ (fun f hf => by cases hf) hl.1 rfl (Nat.le_of_ble_eq_true rfl) dL_depthOf_4 ⟨Nat.le_of_ble_eq_true rfl, Nat.le_of_ble_eq_true rfl⟩ ?_ ?_
  · exact vi_tys_ok (ad := ad) (τ := τ) (as := q_Hubcascade_depthOf_0.1) ⟨Or.inr ⟨q0, x0, hr0, hr1, rfl⟩, vi_okI x1, True.intro⟩
  · refine List.forall_mem_cons.mpr ⟨⟨[], ⟨0, 9, 12, 21⟩, [], htab, (fun _ h => absurd h List.not_mem_nil), by decide, by decide, hts _ (List.mem_cons_of_mem _ (lm_ _ (List.mem_of_getElem? (i := 5) rfl))), va_Nw.use rfl (hT.2.2.1 "java/lang/IndexOutOfBoundsException" (by decide)), fun qx H locs w1 hP hD hS ht hk => ?_⟩, ?_⟩
    · refine lv_astore_n (lv' := [(3, .ref qx), (0, .ref x0), (1, .int x1), (2, .ref oa)]) hx hb dL_depthOf_12 rfl hl (by decide) rfl (fun ls hl => ?_)
      refine lv_iconst (v := 1) hx hb dL_depthOf_13 (by decide) ?_
      exact W.iret hx hb hr (fun t ht9 _ => ⟨⟨_, w1, _, rfl, by rw [ht9]; exact hP, ht, hk⟩, hS.F ht9⟩) hS.2.2 dL_depthOf_14
    exact fun q hq => by cases hq
  · intro alt halt H locs w1 v hP hD hS ht hk ha
    obtain ⟨y, rfl⟩ := vw_int (by decide +kernel) halt ha
    refine lv_i2l (v := y.toInt64) hx hb dL_depthOf_7 rfl ?_
    refine va_last hx hb hK hP hD hS 0 2 rfl rfl (by unfold vp_in; decide) dL_depthOf_8 (fun H locs hP hD hS => ?_)
    rw [my_upd0] at hP
    have hP : va_P D vwCl ((oa, .inl (cy 2, 1, .inr (.inl (vp_updL f 0 y.toInt64)))) :: w1) H := hP
    refine lv_goto (tgt := 15) hx hb dL_depthOf_9 (by decide) ?_
    refine lv_iconst (v := 0) hx hb dL_depthOf_15 (by decide) ?_
    exact W.iret hx hb hr (fun t ht9 _ => ⟨⟨_, w1, _, rfl, by rw [ht9]; exact hP, ht, hk⟩, hS.F ht9⟩) hS.2.2 dL_depthOf_16

theorem dL_speedOf_0 : decode cL_speedOf 0 = .ok (.aload_n 2, 1) := by decide +kernel
theorem dL_speedOf_1 : decode cL_speedOf 1 = .ok (.iconst 0, 1) := by decide +kernel
theorem dL_speedOf_2 : decode cL_speedOf 2 = .ok (.aload_n 0, 1) := by decide +kernel
theorem dL_speedOf_3 : decode cL_speedOf 3 = .ok (.iload_n 1, 1) := by decide +kernel
theorem dL_speedOf_4 : decode cL_speedOf 4 = .ok (.invokevirtual 43, 3) := by decide +kernel
theorem dL_speedOf_7 : decode cL_speedOf 7 = .ok (.i2l, 1) := by decide +kernel
theorem dL_speedOf_8 : decode cL_speedOf 8 = .ok (.lastore, 1) := by decide +kernel
theorem dL_speedOf_9 : decode cL_speedOf 9 = .ok (.goto 6, 3) := by decide +kernel
theorem dL_speedOf_12 : decode cL_speedOf 12 = .ok (.astore_n 3, 1) := by decide +kernel
theorem dL_speedOf_13 : decode cL_speedOf 13 = .ok (.iconst 1, 1) := by decide +kernel
theorem dL_speedOf_14 : decode cL_speedOf 14 = .ok (.ireturn, 1) := by decide +kernel
theorem dL_speedOf_15 : decode cL_speedOf 15 = .ok (.iconst 0, 1) := by decide +kernel
theorem dL_speedOf_16 : decode cL_speedOf 16 = .ok (.ireturn, 1) := by decide +kernel
set_option maxRecDepth 100000 in
set_option maxHeartbeats 4000000 in
theorem w_speedOf (l : Launch) (D : va_G) (cy : Nat → ClassId) (hst : l.stackTraces = false) {ad τ : List Nat} {w : va_W} (sz oa : Nat) (f : Nat → Int64) (hs : vi_s1 vSG τ) (ht : vi_tw vK cy (fun _ => True) ad τ w) {x0 q0 : Nat} (hr0 : τ[q0]? = some 0) (hr1 : ad[q0]? = some x0) (x1 : Int32) : vw_M l D cy vK ad τ oa f w sz q_Hubcascade_speedOf_0.2.2.2.1 yL_speedOf (Cond.codeWith yL_speedOf cL_speedOf 4 (some .int) [(0, 9, 12, 21)] :: lWall) 8 1 132 [.ref x0, .int x1, .ref oa] := by
  refine wr_ofW (cc := cL_speedOf) (maxL := 4) (ret := (some .int)) (hh := [(0, 9, 12, 21)]) (lv := [(0, .ref x0), (1, .int x1), (2, .ref oa)]) (by decide) rfl (Nat.le_of_ble_eq_true rfl) rfl ?_
  intro p e s m below meth c ls hx hb hr hml hown hlocks htab hts hv hl
  have hown : s.vm.findClass RL = some m.cls := hown
  obtain ⟨⟨⟨hsz, hP, hD0⟩, hK, hN⟩, hT⟩ := hv
  subst hsz
  have hD := hD0.self (sz := s.heap.size)
  generalize hAe : va_A ((oa, .inl (cy 2, 1, .inr (.inl f))) :: w) s.heap.size = A at hD hT ⊢
  have hA : ∀ q : Nat, s.heap.size ≤ q → A q := fun q h => by rw [← hAe]; exact Or.inr h
  have hS : va_S A s.heap s.heap [] := va_S.rf
  have hP : va_P D vwCl ([(oa, .inl (cy 2, 1, .inr (.inl f)))] ++ w) s.heap := hP
  have hD : va_D A ([(oa, .inl (cy 2, 1, .inr (.inl f)))] ++ w) := hD
  have S : CallFix p m c cL_speedOf 4 s _ (_ :: lWall) RL := ⟨hx, hb, hml, hown, hts⟩
  refine lv_aload_n hx hb dL_speedOf_0 rfl (lv_at hl 2 rfl) ?_
  refine lv_iconst (v := 0) hx hb dL_speedOf_1 (by decide) ?_
  refine lv_aload_n hx hb dL_speedOf_2 rfl (lv_at hl 0 rfl) ?_
  refine lv_iload_n hx hb dL_speedOf_3 rfl (lv_at hl 1 rfl) ?_
  refine vi_catchV (wr := [(oa, .inl (cy 2, 1, .inr (.inl f)))]) (av := [.ref x0, .int x1]) (rest := [.int 0, .ref oa]) S (m_Hubcascade_speedOf_0 l D cy hst) (cwV 1 S.2.2.2.2 (lgV (lm_ _ (List.mem_of_getElem? (i := 38) rfl)) (lm_ _ (List.mem_of_getElem? (i := 39) rfl)) (lm_ _ (List.mem_of_getElem? (i := 40) rfl)) (lv_ _ (vm_4 _ (List.mem_of_getElem? (i := 20) rfl))) (lv_ _ (vm_6 _ (List.mem_of_getElem? (i := 10) rfl)))) rfl rfl rfl ⟨rfl, by decide, by decide, by decide +kernel⟩ ⟨Nat.le_of_ble_eq_true rfl, Nat.le_of_ble_eq_true rfl⟩) rfl ⟨_, _, _, _, _, _, rfl, rfl, rfl, rfl⟩ hK hN hs hT hP hD hS hA ht rfl ?_ (fun f hf => by cases hf) hl.1 rfl (Nat.le_of_ble_eq_true rfl) dL_speedOf_4 ⟨Nat.le_of_ble_eq_true rfl, Nat.le_of_ble_eq_true rfl⟩ ?_ ?_
  · exact vi_tys_ok (ad := ad) (τ := τ) (as := q_Hubcascade_speedOf_0.1) ⟨Or.inr ⟨q0, x0, hr0, hr1, rfl⟩, vi_okI x1, True.intro⟩
  · refine List.forall_mem_cons.mpr ⟨⟨[], ⟨0, 9, 12, 21⟩, [], htab, (fun _ h => absurd h List.not_mem_nil), by decide, by decide, hts _ (List.mem_cons_of_mem _ (lm_ _ (List.mem_of_getElem? (i := 5) rfl))), va_Nw.use rfl (hT.2.2.1 "java/lang/IndexOutOfBoundsException" (by decide)), fun qx H locs w1 hP hD hS ht hk => ?_⟩, ?_⟩
    · refine lv_astore_n (lv' := [(3, .ref qx), (0, .ref x0), (1, .int x1), (2, .ref oa)]) hx hb dL_speedOf_12 rfl hl (by decide) rfl (fun ls hl => ?_)
      refine lv_iconst (v := 1) hx hb dL_speedOf_13 (by decide) ?_
      exact W.iret hx hb hr (fun t ht9 _ => ⟨⟨_, w1, _, rfl, by rw [ht9]; exact hP, ht, hk⟩, hS.F ht9⟩) hS.2.2 dL_speedOf_14
    exact fun q hq => by cases hq
  · intro alt halt H locs w1 v hP hD hS ht hk ha
    obtain ⟨y, rfl⟩ := vw_int (by decide +kernel) halt ha
    refine lv_i2l (v := y.toInt64) hx hb dL_speedOf_7 rfl ?_
    refine va_last hx hb hK hP hD hS 0 2 rfl rfl (by unfold vp_in; decide) dL_speedOf_8 (fun H locs hP hD hS => ?_)
    rw [my_upd0] at hP
    have hP : va_P D vwCl ((oa, .inl (cy 2, 1, .inr (.inl (vp_updL f 0 y.toInt64)))) :: w1) H := hP
    refine lv_goto (tgt := 15) hx hb dL_speedOf_9 (by decide) ?_
    refine lv_iconst (v := 0) hx hb dL_speedOf_15 (by decide) ?_
    exact W.iret hx hb hr (fun t ht9 _ => ⟨⟨_, w1, _, rfl, by rw [ht9]; exact hP, ht, hk⟩, hS.F ht9⟩) hS.2.2 dL_speedOf_16

theorem dL_translator_0 : decode cL_translator 0 = .ok (.aload_n 2, 1) := by decide +kernel
theorem dL_translator_1 : decode cL_translator 1 = .ok (.iconst 0, 1) := by decide +kernel
theorem dL_translator_2 : decode cL_translator 2 = .ok (.aload_n 0, 1) := by decide +kernel
theorem dL_translator_3 : decode cL_translator 3 = .ok (.iload_n 1, 1) := by decide +kernel
theorem dL_translator_4 : decode cL_translator 4 = .ok (.invokevirtual 46, 3) := by decide +kernel
theorem dL_translator_7 : decode cL_translator 7 = .ok (.i2l, 1) := by decide +kernel
theorem dL_translator_8 : decode cL_translator 8 = .ok (.lastore, 1) := by decide +kernel
theorem dL_translator_9 : decode cL_translator 9 = .ok (.goto 9, 3) := by decide +kernel
theorem dL_translator_12 : decode cL_translator 12 = .ok (.astore_n 3, 1) := by decide +kernel
theorem dL_translator_13 : decode cL_translator 13 = .ok (.iconst 1, 1) := by decide +kernel
theorem dL_translator_14 : decode cL_translator 14 = .ok (.ireturn, 1) := by decide +kernel
theorem dL_translator_15 : decode cL_translator 15 = .ok (.astore_n 3, 1) := by decide +kernel
theorem dL_translator_16 : decode cL_translator 16 = .ok (.iconst 2, 1) := by decide +kernel
theorem dL_translator_17 : decode cL_translator 17 = .ok (.ireturn, 1) := by decide +kernel
theorem dL_translator_18 : decode cL_translator 18 = .ok (.iconst 0, 1) := by decide +kernel
theorem dL_translator_19 : decode cL_translator 19 = .ok (.ireturn, 1) := by decide +kernel
set_option maxRecDepth 100000 in
set_option maxHeartbeats 4000000 in
theorem w_translator (l : Launch) (D : va_G) (cy : Nat → ClassId) (hst : l.stackTraces = false) {ad τ : List Nat} {w : va_W} (sz oa : Nat) (f : Nat → Int64) (hs : vi_s1 vSG τ) (ht : vi_tw vK cy (fun _ => True) ad τ w) {x0 q0 : Nat} (hr0 : τ[q0]? = some 0) (hr1 : ad[q0]? = some x0) (x1 : Int32) : vw_M l D cy vK ad τ oa f w sz q_Hubcascade_translator_0.2.2.2.1 yL_translator (Cond.codeWith yL_translator cL_translator 4 (some .int) [(0, 9, 12, 21), (0, 9, 15, 23)] :: lWall) 8 2 133 [.ref x0, .int x1, .ref oa] := by
  refine wr_ofW (cc := cL_translator) (maxL := 4) (ret := (some .int)) (hh := [(0, 9, 12, 21), (0, 9, 15, 23)]) (lv := [(0, .ref x0), (1, .int x1), (2, .ref oa)]) (by decide) rfl (Nat.le_of_ble_eq_true rfl) rfl ?_
  intro p e s m below meth c ls hx hb hr hml hown hlocks htab hts hv hl
  have hown : s.vm.findClass RL = some m.cls := hown
  obtain ⟨⟨⟨hsz, hP, hD0⟩, hK, hN⟩, hT⟩ := hv
  subst hsz
  have hD := hD0.self (sz := s.heap.size)
  generalize hAe : va_A ((oa, .inl (cy 2, 1, .inr (.inl f))) :: w) s.heap.size = A at hD hT ⊢
  have hA : ∀ q : Nat, s.heap.size ≤ q → A q := fun q h => by rw [← hAe]; exact Or.inr h
  have hS : va_S A s.heap s.heap [] := va_S.rf
  have hP : va_P D vwCl ([(oa, .inl (cy 2, 1, .inr (.inl f)))] ++ w) s.heap := hP
  have hD : va_D A ([(oa, .inl (cy 2, 1, .inr (.inl f)))] ++ w) := hD
  have S : CallFix p m c cL_translator 4 s _ (_ :: lWall) RL := ⟨hx, hb, hml, hown, hts⟩
  refine lv_aload_n hx hb dL_translator_0 rfl (lv_at hl 2 rfl) ?_
  refine lv_iconst (v := 0) hx hb dL_translator_1 (by decide) ?_
  refine lv_aload_n hx hb dL_translator_2 rfl (lv_at hl 0 rfl) ?_
  refine lv_iload_n hx hb dL_translator_3 rfl (lv_at hl 1 rfl) ?_
  refine vi_catchV (wr := [(oa, .inl (cy 2, 1, .inr (.inl f)))]) (av := [.ref x0, .int x1]) (rest := [.int 0, .ref oa]) S (m_Hubcascade_translator_0 l D cy hst) (cwV 1 S.2.2.2.2 (lgV (lm_ _ (List.mem_of_getElem? (i := 41) rfl)) (lm_ _ (List.mem_of_getElem? (i := 42) rfl)) (lm_ _ (List.mem_of_getElem? (i := 43) rfl)) (lv_ _ (vm_4 _ (List.mem_of_getElem? (i := 20) rfl))) (lv_ _ (vm_6 _ (List.mem_of_getElem? (i := 11) rfl)))) rfl rfl rfl ⟨rfl, by decide, by decide, by decide +kernel⟩ ⟨Nat.le_of_ble_eq_true rfl, Nat.le_of_ble_eq_true rfl⟩) rfl ⟨_, _, _, _, _, _, rfl, rfl, rfl, rfl⟩ hK hN hs hT hP hD hS hA ht rfl ?_ (fun f hf => by cases hf) hl.1 rfl (Nat.le_of_ble_eq_true rfl) dL_translator_4 ⟨Nat.le_of_ble_eq_true rfl, Nat.le_of_ble_eq_true rfl⟩ ?_ ?_
  · exact vi_tys_ok (ad := ad) (τ := τ) (as := q_Hubcascade_translator_0.1) ⟨Or.inr ⟨q0, x0, hr0, hr1, rfl⟩, vi_okI x1, True.intro⟩
  · refine List.forall_mem_cons.mpr ⟨⟨[], ⟨0, 9, 12, 21⟩, [⟨0, 9, 15, 23⟩], htab, (fun _ h => absurd h List.not_mem_nil), by decide, by decide, hts _ (List.mem_cons_of_mem _ (lm_ _ (List.mem_of_getElem? (i := 5) rfl))), va_Nw.use rfl (hT.2.2.1 "java/lang/IndexOutOfBoundsException" (by decide)), fun qx H locs w1 hP hD hS ht hk => ?_⟩, ?_⟩
    · refine lv_astore_n (lv' := [(3, .ref qx), (0, .ref x0), (1, .int x1), (2, .ref oa)]) hx hb dL_translator_12 rfl hl (by decide) rfl (fun ls hl => ?_)
      refine lv_iconst (v := 1) hx hb dL_translator_13 (by decide) ?_
      exact W.iret hx hb hr (fun t ht9 _ => ⟨⟨_, w1, _, rfl, by rw [ht9]; exact hP, ht, hk⟩, hS.F ht9⟩) hS.2.2 dL_translator_14
    refine List.forall_mem_cons.mpr ⟨⟨[⟨0, 9, 12, 21⟩], ⟨0, 9, 15, 23⟩, [], htab, (by intro z hz; simp only [List.mem_cons, List.not_mem_nil, or_false] at hz; subst hz; exact Or.inr ⟨by decide, "java/lang/IndexOutOfBoundsException", hts _ (List.mem_cons_of_mem _ (lm_ _ (List.mem_of_getElem? (i := 5) rfl))), hT.2.2.2.2 "java/lang/UnsupportedOperationException" (by decide) "java/lang/IndexOutOfBoundsException" (by decide) (by decide)⟩), by decide, by decide, hts _ (List.mem_cons_of_mem _ (lm_ _ (List.mem_of_getElem? (i := 171) rfl))), va_Nw.use rfl (hT.2.2.1 "java/lang/UnsupportedOperationException" (by decide)), fun qx H locs w1 hP hD hS ht hk => ?_⟩, ?_⟩
    · refine lv_astore_n (lv' := [(3, .ref qx), (0, .ref x0), (1, .int x1), (2, .ref oa)]) hx hb dL_translator_15 rfl hl (by decide) rfl (fun ls hl => ?_)
      refine lv_iconst (v := 2) hx hb dL_translator_16 (by decide) ?_
      exact W.iret hx hb hr (fun t ht9 _ => ⟨⟨_, w1, _, rfl, by rw [ht9]; exact hP, ht, hk⟩, hS.F ht9⟩) hS.2.2 dL_translator_17
    exact fun q hq => by cases hq
  · intro alt halt H locs w1 v hP hD hS ht hk ha
    obtain ⟨y, rfl⟩ := vw_int (by decide +kernel) halt ha
    refine lv_i2l (v := y.toInt64) hx hb dL_translator_7 rfl ?_
    refine va_last hx hb hK hP hD hS 0 2 rfl rfl (by unfold vp_in; decide) dL_translator_8 (fun H locs hP hD hS => ?_)
    rw [my_upd0] at hP
    have hP : va_P D vwCl ((oa, .inl (cy 2, 1, .inr (.inl (vp_updL f 0 y.toInt64)))) :: w1) H := hP
    refine lv_goto (tgt := 18) hx hb dL_translator_9 (by decide) ?_
    refine lv_iconst (v := 0) hx hb dL_translator_18 (by decide) ?_
    exact W.iret hx hb hr (fun t ht9 _ => ⟨⟨_, w1, _, rfl, by rw [ht9]; exact hP, ht, hk⟩, hS.F ht9⟩) hS.2.2 dL_translator_19

theorem dL_addressOf_0 : decode cL_addressOf 0 = .ok (.aload_n 2, 1) := by decide +kernel
theorem dL_addressOf_1 : decode cL_addressOf 1 = .ok (.iconst 0, 1) := by decide +kernel
theorem dL_addressOf_2 : decode cL_addressOf 2 = .ok (.aload_n 0, 1) := by decide +kernel
theorem dL_addressOf_3 : decode cL_addressOf 3 = .ok (.iload_n 1, 1) := by decide +kernel
theorem dL_addressOf_4 : decode cL_addressOf 4 = .ok (.invokevirtual 49, 3) := by decide +kernel
theorem dL_addressOf_7 : decode cL_addressOf 7 = .ok (.i2l, 1) := by decide +kernel
theorem dL_addressOf_8 : decode cL_addressOf 8 = .ok (.lastore, 1) := by decide +kernel
theorem dL_addressOf_9 : decode cL_addressOf 9 = .ok (.goto 6, 3) := by decide +kernel
theorem dL_addressOf_12 : decode cL_addressOf 12 = .ok (.astore_n 3, 1) := by decide +kernel
theorem dL_addressOf_13 : decode cL_addressOf 13 = .ok (.iconst 1, 1) := by decide +kernel
theorem dL_addressOf_14 : decode cL_addressOf 14 = .ok (.ireturn, 1) := by decide +kernel
theorem dL_addressOf_15 : decode cL_addressOf 15 = .ok (.iconst 0, 1) := by decide +kernel
theorem dL_addressOf_16 : decode cL_addressOf 16 = .ok (.ireturn, 1) := by decide +kernel
set_option maxRecDepth 100000 in
set_option maxHeartbeats 4000000 in
theorem w_addressOf (l : Launch) (D : va_G) (cy : Nat → ClassId) (hst : l.stackTraces = false) {ad τ : List Nat} {w : va_W} (sz oa : Nat) (f : Nat → Int64) (hs : vi_s1 vSG τ) (ht : vi_tw vK cy (fun _ => True) ad τ w) {x0 q0 : Nat} (hr0 : τ[q0]? = some 0) (hr1 : ad[q0]? = some x0) (x1 : Int32) : vw_M l D cy vK ad τ oa f w sz q_Hubcascade_addressOf_0.2.2.2.1 yL_addressOf (Cond.codeWith yL_addressOf cL_addressOf 4 (some .int) [(0, 9, 12, 21)] :: lWall) 8 1 132 [.ref x0, .int x1, .ref oa] := by
  refine wr_ofW (cc := cL_addressOf) (maxL := 4) (ret := (some .int)) (hh := [(0, 9, 12, 21)]) (lv := [(0, .ref x0), (1, .int x1), (2, .ref oa)]) (by decide) rfl (Nat.le_of_ble_eq_true rfl) rfl ?_
  intro p e s m below meth c ls hx hb hr hml hown hlocks htab hts hv hl
  have hown : s.vm.findClass RL = some m.cls := hown
  obtain ⟨⟨⟨hsz, hP, hD0⟩, hK, hN⟩, hT⟩ := hv
  subst hsz
  have hD := hD0.self (sz := s.heap.size)
  generalize hAe : va_A ((oa, .inl (cy 2, 1, .inr (.inl f))) :: w) s.heap.size = A at hD hT ⊢
  have hA : ∀ q : Nat, s.heap.size ≤ q → A q := fun q h => by rw [← hAe]; exact Or.inr h
  have hS : va_S A s.heap s.heap [] := va_S.rf
  have hP : va_P D vwCl ([(oa, .inl (cy 2, 1, .inr (.inl f)))] ++ w) s.heap := hP
  have hD : va_D A ([(oa, .inl (cy 2, 1, .inr (.inl f)))] ++ w) := hD
  have S : CallFix p m c cL_addressOf 4 s _ (_ :: lWall) RL := ⟨hx, hb, hml, hown, hts⟩
  refine lv_aload_n hx hb dL_addressOf_0 rfl (lv_at hl 2 rfl) ?_
  refine lv_iconst (v := 0) hx hb dL_addressOf_1 (by decide) ?_
  refine lv_aload_n hx hb dL_addressOf_2 rfl (lv_at hl 0 rfl) ?_
  refine lv_iload_n hx hb dL_addressOf_3 rfl (lv_at hl 1 rfl) ?_
  refine vi_catchV (wr := [(oa, .inl (cy 2, 1, .inr (.inl f)))]) (av := [.ref x0, .int x1]) (rest := [.int 0, .ref oa]) S (m_Hubcascade_addressOf_0 l D cy hst) (cwV 1 S.2.2.2.2 (lgV (lm_ _ (List.mem_of_getElem? (i := 44) rfl)) (lm_ _ (List.mem_of_getElem? (i := 45) rfl)) (lm_ _ (List.mem_of_getElem? (i := 46) rfl)) (lv_ _ (vm_4 _ (List.mem_of_getElem? (i := 20) rfl))) (lv_ _ (vm_6 _ (List.mem_of_getElem? (i := 12) rfl)))) rfl rfl rfl ⟨rfl, by decide, by decide, by decide +kernel⟩ ⟨Nat.le_of_ble_eq_true rfl, Nat.le_of_ble_eq_true rfl⟩) rfl ⟨_, _, _, _, _, _, rfl, rfl, rfl, rfl⟩ hK hN hs hT hP hD hS hA ht rfl ?_ (fun f hf => by cases hf) hl.1 rfl (Nat.le_of_ble_eq_true rfl) dL_addressOf_4 ⟨Nat.le_of_ble_eq_true rfl, Nat.le_of_ble_eq_true rfl⟩ ?_ ?_
  · exact vi_tys_ok (ad := ad) (τ := τ) (as := q_Hubcascade_addressOf_0.1) ⟨Or.inr ⟨q0, x0, hr0, hr1, rfl⟩, vi_okI x1, True.intro⟩
  · refine List.forall_mem_cons.mpr ⟨⟨[], ⟨0, 9, 12, 21⟩, [], htab, (fun _ h => absurd h List.not_mem_nil), by decide, by decide, hts _ (List.mem_cons_of_mem _ (lm_ _ (List.mem_of_getElem? (i := 5) rfl))), va_Nw.use rfl (hT.2.2.1 "java/lang/IndexOutOfBoundsException" (by decide)), fun qx H locs w1 hP hD hS ht hk => ?_⟩, ?_⟩
    · refine lv_astore_n (lv' := [(3, .ref qx), (0, .ref x0), (1, .int x1), (2, .ref oa)]) hx hb dL_addressOf_12 rfl hl (by decide) rfl (fun ls hl => ?_)
      refine lv_iconst (v := 1) hx hb dL_addressOf_13 (by decide) ?_
      exact W.iret hx hb hr (fun t ht9 _ => ⟨⟨_, w1, _, rfl, by rw [ht9]; exact hP, ht, hk⟩, hS.F ht9⟩) hS.2.2 dL_addressOf_14
    exact fun q hq => by cases hq
  · intro alt halt H locs w1 v hP hD hS ht hk ha
    obtain ⟨y, rfl⟩ := vw_int (by decide +kernel) halt ha
    refine lv_i2l (v := y.toInt64) hx hb dL_addressOf_7 rfl ?_
    refine va_last hx hb hK hP hD hS 0 2 rfl rfl (by unfold vp_in; decide) dL_addressOf_8 (fun H locs hP hD hS => ?_)
    rw [my_upd0] at hP
    have hP : va_P D vwCl ((oa, .inl (cy 2, 1, .inr (.inl (vp_updL f 0 y.toInt64)))) :: w1) H := hP
    refine lv_goto (tgt := 15) hx hb dL_addressOf_9 (by decide) ?_
    refine lv_iconst (v := 0) hx hb dL_addressOf_15 (by decide) ?_
    exact W.iret hx hb hr (fun t ht9 _ => ⟨⟨_, w1, _, rfl, by rw [ht9]; exact hP, ht, hk⟩, hS.F ht9⟩) hS.2.2 dL_addressOf_16

theorem dL_look_0 : decode cL_look 0 = .ok (.aload_n 1, 1) := by decide +kernel
theorem dL_look_1 : decode cL_look 1 = .ok (.iconst 0, 1) := by decide +kernel
theorem dL_look_2 : decode cL_look 2 = .ok (.aload_n 0, 1) := by decide +kernel
theorem dL_look_3 : decode cL_look 3 = .ok (.invokevirtual 52, 3) := by decide +kernel
theorem dL_look_6 : decode cL_look 6 = .ok (.i2l, 1) := by decide +kernel
theorem dL_look_7 : decode cL_look 7 = .ok (.lastore, 1) := by decide +kernel
theorem dL_look_8 : decode cL_look 8 = .ok (.goto 6, 3) := by decide +kernel
theorem dL_look_11 : decode cL_look 11 = .ok (.astore_n 2, 1) := by decide +kernel
theorem dL_look_12 : decode cL_look 12 = .ok (.iconst 1, 1) := by decide +kernel
theorem dL_look_13 : decode cL_look 13 = .ok (.ireturn, 1) := by decide +kernel
theorem dL_look_14 : decode cL_look 14 = .ok (.iconst 0, 1) := by decide +kernel
theorem dL_look_15 : decode cL_look 15 = .ok (.ireturn, 1) := by decide +kernel
set_option maxRecDepth 100000 in
set_option maxHeartbeats 4000000 in
theorem w_look (l : Launch) (D : va_G) (cy : Nat → ClassId) (hst : l.stackTraces = false) {ad τ : List Nat} {w : va_W} (sz oa : Nat) (f : Nat → Int64) (hs : vi_s1 vSG τ) (ht : vi_tw vK cy (fun _ => True) ad τ w) {x0 q0 : Nat} (hr0 : τ[q0]? = some 0) (hr1 : ad[q0]? = some x0) : vw_M l D cy vK ad τ oa f w sz q_Hubcascade_look_0.2.2.2.1 yL_look (Cond.codeWith yL_look cL_look 3 (some .int) [(0, 8, 11, 56)] :: lWall) 7 1 144 [.ref x0, .ref oa] := by
  refine wr_ofW (cc := cL_look) (maxL := 3) (ret := (some .int)) (hh := [(0, 8, 11, 56)]) (lv := [(0, .ref x0), (1, .ref oa)]) (by decide) rfl (Nat.le_of_ble_eq_true rfl) rfl ?_
  intro p e s m below meth c ls hx hb hr hml hown hlocks htab hts hv hl
  have hown : s.vm.findClass RL = some m.cls := hown
  obtain ⟨⟨⟨hsz, hP, hD0⟩, hK, hN⟩, hT⟩ := hv
  subst hsz
  have hD := hD0.self (sz := s.heap.size)
  generalize hAe : va_A ((oa, .inl (cy 2, 1, .inr (.inl f))) :: w) s.heap.size = A at hD hT ⊢
  have hA : ∀ q : Nat, s.heap.size ≤ q → A q := fun q h => by rw [← hAe]; exact Or.inr h
  have hS : va_S A s.heap s.heap [] := va_S.rf
  have hP : va_P D vwCl ([(oa, .inl (cy 2, 1, .inr (.inl f)))] ++ w) s.heap := hP
  have hD : va_D A ([(oa, .inl (cy 2, 1, .inr (.inl f)))] ++ w) := hD
  have S : CallFix p m c cL_look 3 s _ (_ :: lWall) RL := ⟨hx, hb, hml, hown, hts⟩
  refine lv_aload_n hx hb dL_look_0 rfl (lv_at hl 1 rfl) ?_
  refine lv_iconst (v := 0) hx hb dL_look_1 (by decide) ?_
  refine lv_aload_n hx hb dL_look_2 rfl (lv_at hl 0 rfl) ?_
  refine vi_catchV (wr := [(oa, .inl (cy 2, 1, .inr (.inl f)))]) (av := [.ref x0]) (rest := [.int 0, .ref oa]) S (m_Hubcascade_look_0 l D cy hst) (cwV 0 S.2.2.2.2 (lgV (lm_ _ (List.mem_of_getElem? (i := 48) rfl)) (lm_ _ (List.mem_of_getElem? (i := 49) rfl)) (lm_ _ (List.mem_of_getElem? (i := 50) rfl)) (lv_ _ (vm_4 _ (List.mem_of_getElem? (i := 20) rfl))) (lv_ _ (vm_7 _ (List.mem_of_getElem? (i := 9) rfl)))) rfl rfl rfl ⟨rfl, by decide, by decide, by decide +kernel⟩ ⟨Nat.le_of_ble_eq_true rfl, Nat.le_of_ble_eq_true rfl⟩) rfl ⟨_, _, _, _, _, _, rfl, rfl, rfl, rfl⟩ hK hN hs hT hP hD hS hA ht rfl ?_ (fun f hf => by cases hf) hl.1 rfl (Nat.le_of_ble_eq_true rfl) dL_look_3 ⟨Nat.le_of_ble_eq_true rfl, Nat.le_of_ble_eq_true rfl⟩ ?_ ?_
  · exact vi_tys_ok (ad := ad) (τ := τ) (as := q_Hubcascade_look_0.1) ⟨Or.inr ⟨q0, x0, hr0, hr1, rfl⟩, True.intro⟩
  · refine List.forall_mem_cons.mpr ⟨⟨[], ⟨0, 8, 11, 56⟩, [], htab, (fun _ h => absurd h List.not_mem_nil), by decide, by decide, hts _ (List.mem_cons_of_mem _ (lm_ _ (List.mem_of_getElem? (i := 47) rfl))), va_Nw.use rfl (hT.2.2.1 "java/util/NoSuchElementException" (by decide)), fun qx H locs w1 hP hD hS ht hk => ?_⟩, ?_⟩
    · refine lv_astore_n (lv' := [(2, .ref qx), (0, .ref x0), (1, .ref oa)]) hx hb dL_look_11 rfl hl (by decide) rfl (fun ls hl => ?_)
      refine lv_iconst (v := 1) hx hb dL_look_12 (by decide) ?_
      exact W.iret hx hb hr (fun t ht9 _ => ⟨⟨_, w1, _, rfl, by rw [ht9]; exact hP, ht, hk⟩, hS.F ht9⟩) hS.2.2 dL_look_13
    exact fun q hq => by cases hq
  · intro alt halt H locs w1 v hP hD hS ht hk ha
    obtain ⟨y, rfl⟩ := vw_int (by decide +kernel) halt ha
    refine lv_i2l (v := y.toInt64) hx hb dL_look_6 rfl ?_
    refine va_last hx hb hK hP hD hS 0 2 rfl rfl (by unfold vp_in; decide) dL_look_7 (fun H locs hP hD hS => ?_)
    rw [my_upd0] at hP
    have hP : va_P D vwCl ((oa, .inl (cy 2, 1, .inr (.inl (vp_updL f 0 y.toInt64)))) :: w1) H := hP
    refine lv_goto (tgt := 14) hx hb dL_look_8 (by decide) ?_
    refine lv_iconst (v := 0) hx hb dL_look_14 (by decide) ?_
    exact W.iret hx hb hr (fun t ht9 _ => ⟨⟨_, w1, _, rfl, by rw [ht9]; exact hP, ht, hk⟩, hS.F ht9⟩) hS.2.2 dL_look_15

theorem dL_driver_0 : decode cL_driver 0 = .ok (.aload_n 3, 1) := by decide +kernel
theorem dL_driver_1 : decode cL_driver 1 = .ok (.iconst 0, 1) := by decide +kernel
theorem dL_driver_2 : decode cL_driver 2 = .ok (.aload_n 0, 1) := by decide +kernel
theorem dL_driver_3 : decode cL_driver 3 = .ok (.iload_n 1, 1) := by decide +kernel
theorem dL_driver_4 : decode cL_driver 4 = .ok (.iload_n 2, 1) := by decide +kernel
theorem dL_driver_5 : decode cL_driver 5 = .ok (.invokevirtual 58, 3) := by decide +kernel
theorem dL_driver_8 : decode cL_driver 8 = .ok (.i2l, 1) := by decide +kernel
theorem dL_driver_9 : decode cL_driver 9 = .ok (.lastore, 1) := by decide +kernel
theorem dL_driver_10 : decode cL_driver 10 = .ok (.goto 11, 3) := by decide +kernel
theorem dL_driver_13 : decode cL_driver 13 = .ok (.astore 4, 2) := by decide +kernel
theorem dL_driver_15 : decode cL_driver 15 = .ok (.iconst 1, 1) := by decide +kernel
theorem dL_driver_16 : decode cL_driver 16 = .ok (.ireturn, 1) := by decide +kernel
theorem dL_driver_17 : decode cL_driver 17 = .ok (.astore 4, 2) := by decide +kernel
theorem dL_driver_19 : decode cL_driver 19 = .ok (.iconst 2, 1) := by decide +kernel
theorem dL_driver_20 : decode cL_driver 20 = .ok (.ireturn, 1) := by decide +kernel
theorem dL_driver_21 : decode cL_driver 21 = .ok (.iconst 0, 1) := by decide +kernel
theorem dL_driver_22 : decode cL_driver 22 = .ok (.ireturn, 1) := by decide +kernel
set_option maxRecDepth 100000 in
set_option maxHeartbeats 4000000 in
theorem w_driver (l : Launch) (D : va_G) (cy : Nat → ClassId) (hst : l.stackTraces = false) {ad τ : List Nat} {w : va_W} (sz oa : Nat) (f : Nat → Int64) (hs : vi_s1 vSG τ) (ht : vi_tw vK cy (fun _ => True) ad τ w) {x0 q0 : Nat} (hr0 : τ[q0]? = some 0) (hr1 : ad[q0]? = some x0) (x1 : Int32) (x2 : Int32) : vw_M l D cy vK ad τ oa f w sz q_Hubcascade_driver_0.2.2.2.1 yL_driver (Cond.codeWith yL_driver cL_driver 5 (some .int) [(0, 10, 13, 13), (0, 10, 17, 15)] :: lWall) 7 1 112 [.ref x0, .int x1, .int x2, .ref oa] := by
  refine wr_ofW (cc := cL_driver) (maxL := 5) (ret := (some .int)) (hh := [(0, 10, 13, 13), (0, 10, 17, 15)]) (lv := [(0, .ref x0), (1, .int x1), (2, .int x2), (3, .ref oa)]) (by decide) rfl (Nat.le_of_ble_eq_true rfl) rfl ?_
  intro p e s m below meth c ls hx hb hr hml hown hlocks htab hts hv hl
  have hown : s.vm.findClass RL = some m.cls := hown
  obtain ⟨⟨⟨hsz, hP, hD0⟩, hK, hN⟩, hT⟩ := hv
  subst hsz
  have hD := hD0.self (sz := s.heap.size)
  generalize hAe : va_A ((oa, .inl (cy 2, 1, .inr (.inl f))) :: w) s.heap.size = A at hD hT ⊢
  have hA : ∀ q : Nat, s.heap.size ≤ q → A q := fun q h => by rw [← hAe]; exact Or.inr h
  have hS : va_S A s.heap s.heap [] := va_S.rf
  have hP : va_P D vwCl ([(oa, .inl (cy 2, 1, .inr (.inl f)))] ++ w) s.heap := hP
  have hD : va_D A ([(oa, .inl (cy 2, 1, .inr (.inl f)))] ++ w) := hD
  have S : CallFix p m c cL_driver 5 s _ (_ :: lWall) RL := ⟨hx, hb, hml, hown, hts⟩
  refine lv_aload_n hx hb dL_driver_0 rfl (lv_at hl 3 rfl) ?_
  refine lv_iconst (v := 0) hx hb dL_driver_1 (by decide) ?_
  refine lv_aload_n hx hb dL_driver_2 rfl (lv_at hl 0 rfl) ?_
  refine lv_iload_n hx hb dL_driver_3 rfl (lv_at hl 1 rfl) ?_
  refine lv_iload_n hx hb dL_driver_4 rfl (lv_at hl 2 rfl) ?_
  refine vi_catchV (wr := [(oa, .inl (cy 2, 1, .inr (.inl f)))]) (av := [.ref x0, .int x1, .int x2]) (rest := [.int 0, .ref oa]) S (m_Hubcascade_driver_0 l D cy hst) (cwV 2 S.2.2.2.2 (lgV (lm_ _ (List.mem_of_getElem? (i := 65) rfl)) (lm_ _ (List.mem_of_getElem? (i := 66) rfl)) (lm_ _ (List.mem_of_getElem? (i := 67) rfl)) (lv_ _ (vm_4 _ (List.mem_of_getElem? (i := 20) rfl))) (lv_ _ (vm_7 _ (List.mem_of_getElem? (i := 10) rfl)))) rfl rfl rfl ⟨rfl, by decide, by decide, by decide +kernel⟩ ⟨Nat.le_of_ble_eq_true rfl, Nat.le_of_ble_eq_true rfl⟩) rfl ⟨_, _, _, _, _, _, rfl, rfl, rfl, rfl⟩ hK hN hs hT hP hD hS hA ht rfl ?_ (fun f hf => by cases hf) hl.1 rfl (Nat.le_of_ble_eq_true rfl) dL_driver_5 ⟨Nat.le_of_ble_eq_true rfl, Nat.le_of_ble_eq_true rfl⟩ ?_ ?_
  · exact vi_tys_ok (ad := ad) (τ := τ) (as := q_Hubcascade_driver_0.1) ⟨Or.inr ⟨q0, x0, hr0, hr1, rfl⟩, vi_okI x1, vi_okI x2, True.intro⟩
  · refine List.forall_mem_cons.mpr ⟨⟨[], ⟨0, 10, 13, 13⟩, [⟨0, 10, 17, 15⟩], htab, (fun _ h => absurd h List.not_mem_nil), by decide, by decide, hts _ (List.mem_cons_of_mem _ (lm_ _ (List.mem_of_getElem? (i := 0) rfl))), va_Nw.use rfl (hT.2.2.1 "java/lang/IllegalArgumentException" (by decide)), fun qx H locs w1 hP hD hS ht hk => ?_⟩, ?_⟩
    · refine lv_astore (lv' := [(4, .ref qx), (0, .ref x0), (1, .int x1), (2, .int x2), (3, .ref oa)]) hx hb dL_driver_13 hl (by decide) rfl (fun ls hl => ?_)
      refine lv_iconst (v := 1) hx hb dL_driver_15 (by decide) ?_
      exact W.iret hx hb hr (fun t ht9 _ => ⟨⟨_, w1, _, rfl, by rw [ht9]; exact hP, ht, hk⟩, hS.F ht9⟩) hS.2.2 dL_driver_16
    refine List.forall_mem_cons.mpr ⟨⟨[⟨0, 10, 13, 13⟩], ⟨0, 10, 17, 15⟩, [], htab, (by intro z hz; simp only [List.mem_cons, List.not_mem_nil, or_false] at hz; subst hz; exact Or.inr ⟨by decide, "java/lang/IllegalArgumentException", hts _ (List.mem_cons_of_mem _ (lm_ _ (List.mem_of_getElem? (i := 0) rfl))), hT.2.2.2.2 "java/lang/IllegalStateException" (by decide) "java/lang/IllegalArgumentException" (by decide) (by decide)⟩), by decide, by decide, hts _ (List.mem_cons_of_mem _ (lm_ _ (List.mem_of_getElem? (i := 170) rfl))), va_Nw.use rfl (hT.2.2.1 "java/lang/IllegalStateException" (by decide)), fun qx H locs w1 hP hD hS ht hk => ?_⟩, ?_⟩
    · refine lv_astore (lv' := [(4, .ref qx), (0, .ref x0), (1, .int x1), (2, .int x2), (3, .ref oa)]) hx hb dL_driver_17 hl (by decide) rfl (fun ls hl => ?_)
      refine lv_iconst (v := 2) hx hb dL_driver_19 (by decide) ?_
      exact W.iret hx hb hr (fun t ht9 _ => ⟨⟨_, w1, _, rfl, by rw [ht9]; exact hP, ht, hk⟩, hS.F ht9⟩) hS.2.2 dL_driver_20
    exact fun q hq => by cases hq
  · intro alt halt H locs w1 v hP hD hS ht hk ha
    obtain ⟨y, rfl⟩ := vw_int (by decide +kernel) halt ha
    refine lv_i2l (v := y.toInt64) hx hb dL_driver_8 rfl ?_
    refine va_last hx hb hK hP hD hS 0 2 rfl rfl (by unfold vp_in; decide) dL_driver_9 (fun H locs hP hD hS => ?_)
    rw [my_upd0] at hP
    have hP : va_P D vwCl ((oa, .inl (cy 2, 1, .inr (.inl (vp_updL f 0 y.toInt64)))) :: w1) H := hP
    refine lv_goto (tgt := 21) hx hb dL_driver_10 (by decide) ?_
    refine lv_iconst (v := 0) hx hb dL_driver_21 (by decide) ?_
    exact W.iret hx hb hr (fun t ht9 _ => ⟨⟨_, w1, _, rfl, by rw [ht9]; exact hP, ht, hk⟩, hS.F ht9⟩) hS.2.2 dL_driver_22

theorem dL_driverOf_0 : decode cL_driverOf 0 = .ok (.aload_n 2, 1) := by decide +kernel
theorem dL_driverOf_1 : decode cL_driverOf 1 = .ok (.iconst 0, 1) := by decide +kernel
theorem dL_driverOf_2 : decode cL_driverOf 2 = .ok (.aload_n 0, 1) := by decide +kernel
theorem dL_driverOf_3 : decode cL_driverOf 3 = .ok (.iload_n 1, 1) := by decide +kernel
theorem dL_driverOf_4 : decode cL_driverOf 4 = .ok (.invokevirtual 62, 3) := by decide +kernel
theorem dL_driverOf_7 : decode cL_driverOf 7 = .ok (.i2l, 1) := by decide +kernel
theorem dL_driverOf_8 : decode cL_driverOf 8 = .ok (.lastore, 1) := by decide +kernel
theorem dL_driverOf_9 : decode cL_driverOf 9 = .ok (.goto 6, 3) := by decide +kernel
theorem dL_driverOf_12 : decode cL_driverOf 12 = .ok (.astore_n 3, 1) := by decide +kernel
theorem dL_driverOf_13 : decode cL_driverOf 13 = .ok (.iconst 1, 1) := by decide +kernel
theorem dL_driverOf_14 : decode cL_driverOf 14 = .ok (.ireturn, 1) := by decide +kernel
theorem dL_driverOf_15 : decode cL_driverOf 15 = .ok (.iconst 0, 1) := by decide +kernel
theorem dL_driverOf_16 : decode cL_driverOf 16 = .ok (.ireturn, 1) := by decide +kernel
set_option maxRecDepth 100000 in
set_option maxHeartbeats 4000000 in
theorem w_driverOf (l : Launch) (D : va_G) (cy : Nat → ClassId) (hst : l.stackTraces = false) {ad τ : List Nat} {w : va_W} (sz oa : Nat) (f : Nat → Int64) (hs : vi_s1 vSG τ) (ht : vi_tw vK cy (fun _ => True) ad τ w) {x0 q0 : Nat} (hr0 : τ[q0]? = some 0) (hr1 : ad[q0]? = some x0) (x1 : Int32) : vw_M l D cy vK ad τ oa f w sz q_Hubcascade_driverOf_0.2.2.2.1 yL_driverOf (Cond.codeWith yL_driverOf cL_driverOf 4 (some .int) [(0, 9, 12, 21)] :: lWall) 8 1 132 [.ref x0, .int x1, .ref oa] := by
  refine wr_ofW (cc := cL_driverOf) (maxL := 4) (ret := (some .int)) (hh := [(0, 9, 12, 21)]) (lv := [(0, .ref x0), (1, .int x1), (2, .ref oa)]) (by decide) rfl (Nat.le_of_ble_eq_true rfl) rfl ?_
  intro p e s m below meth c ls hx hb hr hml hown hlocks htab hts hv hl
  have hown : s.vm.findClass RL = some m.cls := hown
  obtain ⟨⟨⟨hsz, hP, hD0⟩, hK, hN⟩, hT⟩ := hv
  subst hsz
  have hD := hD0.self (sz := s.heap.size)
  generalize hAe : va_A ((oa, .inl (cy 2, 1, .inr (.inl f))) :: w) s.heap.size = A at hD hT ⊢
  have hA : ∀ q : Nat, s.heap.size ≤ q → A q := fun q h => by rw [← hAe]; exact Or.inr h
  have hS : va_S A s.heap s.heap [] := va_S.rf
  have hP : va_P D vwCl ([(oa, .inl (cy 2, 1, .inr (.inl f)))] ++ w) s.heap := hP
  have hD : va_D A ([(oa, .inl (cy 2, 1, .inr (.inl f)))] ++ w) := hD
  have S : CallFix p m c cL_driverOf 4 s _ (_ :: lWall) RL := ⟨hx, hb, hml, hown, hts⟩
  refine lv_aload_n hx hb dL_driverOf_0 rfl (lv_at hl 2 rfl) ?_
  refine lv_iconst (v := 0) hx hb dL_driverOf_1 (by decide) ?_
  refine lv_aload_n hx hb dL_driverOf_2 rfl (lv_at hl 0 rfl) ?_
  refine lv_iload_n hx hb dL_driverOf_3 rfl (lv_at hl 1 rfl) ?_
  refine vi_catchV (wr := [(oa, .inl (cy 2, 1, .inr (.inl f)))]) (av := [.ref x0, .int x1]) (rest := [.int 0, .ref oa]) S (m_Hubcascade_driverOf_0 l D cy hst) (cwV 1 S.2.2.2.2 (lgV (lm_ _ (List.mem_of_getElem? (i := 68) rfl)) (lm_ _ (List.mem_of_getElem? (i := 69) rfl)) (lm_ _ (List.mem_of_getElem? (i := 70) rfl)) (lv_ _ (vm_4 _ (List.mem_of_getElem? (i := 20) rfl))) (lv_ _ (vm_7 _ (List.mem_of_getElem? (i := 11) rfl)))) rfl rfl rfl ⟨rfl, by decide, by decide, by decide +kernel⟩ ⟨Nat.le_of_ble_eq_true rfl, Nat.le_of_ble_eq_true rfl⟩) rfl ⟨_, _, _, _, _, _, rfl, rfl, rfl, rfl⟩ hK hN hs hT hP hD hS hA ht rfl ?_ (fun f hf => by cases hf) hl.1 rfl (Nat.le_of_ble_eq_true rfl) dL_driverOf_4 ⟨Nat.le_of_ble_eq_true rfl, Nat.le_of_ble_eq_true rfl⟩ ?_ ?_
  · exact vi_tys_ok (ad := ad) (τ := τ) (as := q_Hubcascade_driverOf_0.1) ⟨Or.inr ⟨q0, x0, hr0, hr1, rfl⟩, vi_okI x1, True.intro⟩
  · refine List.forall_mem_cons.mpr ⟨⟨[], ⟨0, 9, 12, 21⟩, [], htab, (fun _ h => absurd h List.not_mem_nil), by decide, by decide, hts _ (List.mem_cons_of_mem _ (lm_ _ (List.mem_of_getElem? (i := 5) rfl))), va_Nw.use rfl (hT.2.2.1 "java/lang/IndexOutOfBoundsException" (by decide)), fun qx H locs w1 hP hD hS ht hk => ?_⟩, ?_⟩
    · refine lv_astore_n (lv' := [(3, .ref qx), (0, .ref x0), (1, .int x1), (2, .ref oa)]) hx hb dL_driverOf_12 rfl hl (by decide) rfl (fun ls hl => ?_)
      refine lv_iconst (v := 1) hx hb dL_driverOf_13 (by decide) ?_
      exact W.iret hx hb hr (fun t ht9 _ => ⟨⟨_, w1, _, rfl, by rw [ht9]; exact hP, ht, hk⟩, hS.F ht9⟩) hS.2.2 dL_driverOf_14
    exact fun q hq => by cases hq
  · intro alt halt H locs w1 v hP hD hS ht hk ha
    obtain ⟨y, rfl⟩ := vw_int (by decide +kernel) halt ha
    refine lv_i2l (v := y.toInt64) hx hb dL_driverOf_7 rfl ?_
    refine va_last hx hb hK hP hD hS 0 2 rfl rfl (by unfold vp_in; decide) dL_driverOf_8 (fun H locs hP hD hS => ?_)
    rw [my_upd0] at hP
    have hP : va_P D vwCl ((oa, .inl (cy 2, 1, .inr (.inl (vp_updL f 0 y.toInt64)))) :: w1) H := hP
    refine lv_goto (tgt := 15) hx hb dL_driverOf_9 (by decide) ?_
    refine lv_iconst (v := 0) hx hb dL_driverOf_15 (by decide) ?_
    exact W.iret hx hb hr (fun t ht9 _ => ⟨⟨_, w1, _, rfl, by rw [ht9]; exact hP, ht, hk⟩, hS.F ht9⟩) hS.2.2 dL_driverOf_16

theorem dL_draw_0 : decode cL_draw 0 = .ok (.aload_n 3, 1) := by decide +kernel
theorem dL_draw_1 : decode cL_draw 1 = .ok (.iconst 0, 1) := by decide +kernel
theorem dL_draw_2 : decode cL_draw 2 = .ok (.aload_n 0, 1) := by decide +kernel
theorem dL_draw_3 : decode cL_draw 3 = .ok (.iload_n 1, 1) := by decide +kernel
theorem dL_draw_4 : decode cL_draw 4 = .ok (.iload_n 2, 1) := by decide +kernel
theorem dL_draw_5 : decode cL_draw 5 = .ok (.invokevirtual 65, 3) := by decide +kernel
theorem dL_draw_8 : decode cL_draw 8 = .ok (.i2l, 1) := by decide +kernel
theorem dL_draw_9 : decode cL_draw 9 = .ok (.lastore, 1) := by decide +kernel
theorem dL_draw_10 : decode cL_draw 10 = .ok (.goto 11, 3) := by decide +kernel
theorem dL_draw_13 : decode cL_draw 13 = .ok (.astore 4, 2) := by decide +kernel
theorem dL_draw_15 : decode cL_draw 15 = .ok (.iconst 1, 1) := by decide +kernel
theorem dL_draw_16 : decode cL_draw 16 = .ok (.ireturn, 1) := by decide +kernel
theorem dL_draw_17 : decode cL_draw 17 = .ok (.astore 4, 2) := by decide +kernel
theorem dL_draw_19 : decode cL_draw 19 = .ok (.iconst 2, 1) := by decide +kernel
theorem dL_draw_20 : decode cL_draw 20 = .ok (.ireturn, 1) := by decide +kernel
theorem dL_draw_21 : decode cL_draw 21 = .ok (.iconst 0, 1) := by decide +kernel
theorem dL_draw_22 : decode cL_draw 22 = .ok (.ireturn, 1) := by decide +kernel
set_option maxRecDepth 100000 in
set_option maxHeartbeats 4000000 in
theorem w_draw (l : Launch) (D : va_G) (cy : Nat → ClassId) (hst : l.stackTraces = false) {ad τ : List Nat} {w : va_W} (sz oa : Nat) (f : Nat → Int64) (hs : vi_s1 vSG τ) (ht : vi_tw vK cy (fun _ => True) ad τ w) {x0 q0 : Nat} (hr0 : τ[q0]? = some 0) (hr1 : ad[q0]? = some x0) (x1 : Int32) (x2 : Int32) : vw_M l D cy vK ad τ oa f w sz q_Hubcascade_draw_0.2.2.2.1 yL_draw (Cond.codeWith yL_draw cL_draw 5 (some .int) [(0, 10, 13, 21), (0, 10, 17, 13)] :: lWall) 9 2 156 [.ref x0, .int x1, .int x2, .ref oa] := by
  refine wr_ofW (cc := cL_draw) (maxL := 5) (ret := (some .int)) (hh := [(0, 10, 13, 21), (0, 10, 17, 13)]) (lv := [(0, .ref x0), (1, .int x1), (2, .int x2), (3, .ref oa)]) (by decide) rfl (Nat.le_of_ble_eq_true rfl) rfl ?_
  intro p e s m below meth c ls hx hb hr hml hown hlocks htab hts hv hl
  have hown : s.vm.findClass RL = some m.cls := hown
  obtain ⟨⟨⟨hsz, hP, hD0⟩, hK, hN⟩, hT⟩ := hv
  subst hsz
  have hD := hD0.self (sz := s.heap.size)
  generalize hAe : va_A ((oa, .inl (cy 2, 1, .inr (.inl f))) :: w) s.heap.size = A at hD hT ⊢
  have hA : ∀ q : Nat, s.heap.size ≤ q → A q := fun q h => by rw [← hAe]; exact Or.inr h
  have hS : va_S A s.heap s.heap [] := va_S.rf
  have hP : va_P D vwCl ([(oa, .inl (cy 2, 1, .inr (.inl f)))] ++ w) s.heap := hP
  have hD : va_D A ([(oa, .inl (cy 2, 1, .inr (.inl f)))] ++ w) := hD
  have S : CallFix p m c cL_draw 5 s _ (_ :: lWall) RL := ⟨hx, hb, hml, hown, hts⟩
  refine lv_aload_n hx hb dL_draw_0 rfl (lv_at hl 3 rfl) ?_
  refine lv_iconst (v := 0) hx hb dL_draw_1 (by decide) ?_
  refine lv_aload_n hx hb dL_draw_2 rfl (lv_at hl 0 rfl) ?_
  refine lv_iload_n hx hb dL_draw_3 rfl (lv_at hl 1 rfl) ?_
  refine lv_iload_n hx hb dL_draw_4 rfl (lv_at hl 2 rfl) ?_
  refine vi_catchV (wr := [(oa, .inl (cy 2, 1, .inr (.inl f)))]) (av := [.ref x0, .int x1, .int x2]) (rest := [.int 0, .ref oa]) S (m_Hubcascade_draw_0 l D cy hst) (cwV 2 S.2.2.2.2 (lgV (lm_ _ (List.mem_of_getElem? (i := 71) rfl)) (lm_ _ (List.mem_of_getElem? (i := 72) rfl)) (lm_ _ (List.mem_of_getElem? (i := 73) rfl)) (lv_ _ (vm_4 _ (List.mem_of_getElem? (i := 20) rfl))) (lv_ _ (vm_7 _ (List.mem_of_getElem? (i := 13) rfl)))) rfl rfl rfl ⟨rfl, by decide, by decide, by decide +kernel⟩ ⟨Nat.le_of_ble_eq_true rfl, Nat.le_of_ble_eq_true rfl⟩) rfl ⟨_, _, _, _, _, _, rfl, rfl, rfl, rfl⟩ hK hN hs hT hP hD hS hA ht rfl ?_ (fun f hf => by cases hf) hl.1 rfl (Nat.le_of_ble_eq_true rfl) dL_draw_5 ⟨Nat.le_of_ble_eq_true rfl, Nat.le_of_ble_eq_true rfl⟩ ?_ ?_
  · exact vi_tys_ok (ad := ad) (τ := τ) (as := q_Hubcascade_draw_0.1) ⟨Or.inr ⟨q0, x0, hr0, hr1, rfl⟩, vi_okI x1, vi_okI x2, True.intro⟩
  · refine List.forall_mem_cons.mpr ⟨⟨[], ⟨0, 10, 13, 21⟩, [⟨0, 10, 17, 13⟩], htab, (fun _ h => absurd h List.not_mem_nil), by decide, by decide, hts _ (List.mem_cons_of_mem _ (lm_ _ (List.mem_of_getElem? (i := 5) rfl))), va_Nw.use rfl (hT.2.2.1 "java/lang/IndexOutOfBoundsException" (by decide)), fun qx H locs w1 hP hD hS ht hk => ?_⟩, ?_⟩
    · refine lv_astore (lv' := [(4, .ref qx), (0, .ref x0), (1, .int x1), (2, .int x2), (3, .ref oa)]) hx hb dL_draw_13 hl (by decide) rfl (fun ls hl => ?_)
      refine lv_iconst (v := 1) hx hb dL_draw_15 (by decide) ?_
      exact W.iret hx hb hr (fun t ht9 _ => ⟨⟨_, w1, _, rfl, by rw [ht9]; exact hP, ht, hk⟩, hS.F ht9⟩) hS.2.2 dL_draw_16
    refine List.forall_mem_cons.mpr ⟨⟨[⟨0, 10, 13, 21⟩], ⟨0, 10, 17, 13⟩, [], htab, (by intro z hz; simp only [List.mem_cons, List.not_mem_nil, or_false] at hz; subst hz; exact Or.inr ⟨by decide, "java/lang/IndexOutOfBoundsException", hts _ (List.mem_cons_of_mem _ (lm_ _ (List.mem_of_getElem? (i := 5) rfl))), hT.2.2.2.2 "java/lang/IllegalArgumentException" (by decide) "java/lang/IndexOutOfBoundsException" (by decide) (by decide)⟩), by decide, by decide, hts _ (List.mem_cons_of_mem _ (lm_ _ (List.mem_of_getElem? (i := 0) rfl))), va_Nw.use rfl (hT.2.2.1 "java/lang/IllegalArgumentException" (by decide)), fun qx H locs w1 hP hD hS ht hk => ?_⟩, ?_⟩
    · refine lv_astore (lv' := [(4, .ref qx), (0, .ref x0), (1, .int x1), (2, .int x2), (3, .ref oa)]) hx hb dL_draw_17 hl (by decide) rfl (fun ls hl => ?_)
      refine lv_iconst (v := 2) hx hb dL_draw_19 (by decide) ?_
      exact W.iret hx hb hr (fun t ht9 _ => ⟨⟨_, w1, _, rfl, by rw [ht9]; exact hP, ht, hk⟩, hS.F ht9⟩) hS.2.2 dL_draw_20
    exact fun q hq => by cases hq
  · intro alt halt H locs w1 v hP hD hS ht hk ha
    obtain ⟨y, rfl⟩ := vw_int (by decide +kernel) halt ha
    refine lv_i2l (v := y.toInt64) hx hb dL_draw_8 rfl ?_
    refine va_last hx hb hK hP hD hS 0 2 rfl rfl (by unfold vp_in; decide) dL_draw_9 (fun H locs hP hD hS => ?_)
    rw [my_upd0] at hP
    have hP : va_P D vwCl ((oa, .inl (cy 2, 1, .inr (.inl (vp_updL f 0 y.toInt64)))) :: w1) H := hP
    refine lv_goto (tgt := 21) hx hb dL_draw_10 (by decide) ?_
    refine lv_iconst (v := 0) hx hb dL_draw_21 (by decide) ?_
    exact W.iret hx hb hr (fun t ht9 _ => ⟨⟨_, w1, _, rfl, by rw [ht9]; exact hP, ht, hk⟩, hS.F ht9⟩) hS.2.2 dL_draw_22
end VWRB
