section VWRB
theorem dL_sleep_0 : decode cL_sleep 0 = .ok (.aload_n 2, 1) := by decide +kernel
theorem dL_sleep_1 : decode cL_sleep 1 = .ok (.iconst 0, 1) := by decide +kernel
theorem dL_sleep_2 : decode cL_sleep 2 = .ok (.aload_n 0, 1) := by decide +kernel
theorem dL_sleep_3 : decode cL_sleep 3 = .ok (.iload_n 1, 1) := by decide +kernel
theorem dL_sleep_4 : decode cL_sleep 4 = .ok (.invokevirtual 68, 3) := by decide +kernel
theorem dL_sleep_7 : decode cL_sleep 7 = .ok (.i2l, 1) := by decide +kernel
theorem dL_sleep_8 : decode cL_sleep 8 = .ok (.lastore, 1) := by decide +kernel
theorem dL_sleep_9 : decode cL_sleep 9 = .ok (.goto 9, 3) := by decide +kernel
theorem dL_sleep_12 : decode cL_sleep 12 = .ok (.astore_n 3, 1) := by decide +kernel
theorem dL_sleep_13 : decode cL_sleep 13 = .ok (.iconst 1, 1) := by decide +kernel
theorem dL_sleep_14 : decode cL_sleep 14 = .ok (.ireturn, 1) := by decide +kernel
theorem dL_sleep_15 : decode cL_sleep 15 = .ok (.astore_n 3, 1) := by decide +kernel
theorem dL_sleep_16 : decode cL_sleep 16 = .ok (.iconst 2, 1) := by decide +kernel
theorem dL_sleep_17 : decode cL_sleep 17 = .ok (.ireturn, 1) := by decide +kernel
theorem dL_sleep_18 : decode cL_sleep 18 = .ok (.iconst 0, 1) := by decide +kernel
theorem dL_sleep_19 : decode cL_sleep 19 = .ok (.ireturn, 1) := by decide +kernel
set_option maxRecDepth 100000 in
set_option maxHeartbeats 4000000 in
theorem w_sleep (l : Launch) (D : va_G) (cy : Nat → ClassId) (hst : l.stackTraces = false) {ad τ : List Nat} {w : va_W} (sz oa : Nat) (f : Nat → Int64) (hs : vi_s1 vSG τ) (ht : vi_tw vK cy (fun _ => True) ad τ w) {x0 q0 : Nat} (hr0 : τ[q0]? = some 0) (hr1 : ad[q0]? = some x0) (x1 : Int32) : vw_M l D cy vK ad τ oa f w sz q_Hubcascade_sleep_0.2.2.2.1 yL_sleep (Cond.codeWith yL_sleep cL_sleep 4 (some .int) [(0, 9, 12, 21), (0, 9, 15, 23)] :: lWall) 9 2 157 [.ref x0, .int x1, .ref oa] := by
  refine wr_ofW (cc := cL_sleep) (maxL := 4) (ret := (some .int)) (hh := [(0, 9, 12, 21), (0, 9, 15, 23)]) (lv := [(0, .ref x0), (1, .int x1), (2, .ref oa)]) (by decide) rfl (Nat.le_of_ble_eq_true rfl) rfl ?_
  intro p e s m below meth c ls hx hb hr hml hown hlocks htab hts hv hl
  have hown : s.vm.findClass RL = some m.cls := hown
  obtain ⟨⟨⟨hsz, hP, hD0⟩, hK, hN⟩, hT⟩ := hv
  subst hsz
  have hD := hD0.self (sz := s.heap.size)
  generalize hAe : va_A ((oa, .inl (cy 2, 1, .inr (.inl f))) :: w) s.heap.size = A at hD hT ⊢
  have hA : ∀ q : Nat, s.heap.size ≤ q → A q := fun q h => by rw [← hAe]; exact Or.inr h
  have hS : va_S A s.heap s.heap [] := va_S.rf
  have hP : va_P D vwCl ([(oa, .inl (cy 2, 1, .inr (.inl f)))] ++ w) s.heap := hP
  have hD : va_D A ([(oa, .inl (cy 2, 1, .inr (.inl f)))] ++ w) := hD
  have S : CallFix p m c cL_sleep 4 s _ (_ :: lWall) RL := ⟨hx, hb, hml, hown, hts⟩
  refine lv_aload_n hx hb dL_sleep_0 rfl (lv_at hl 2 rfl) ?_
  refine lv_iconst (v := 0) hx hb dL_sleep_1 (by decide) ?_
  refine lv_aload_n hx hb dL_sleep_2 rfl (lv_at hl 0 rfl) ?_
  refine lv_iload_n hx hb dL_sleep_3 rfl (lv_at hl 1 rfl) ?_
  refine vi_catchV (wr := [(oa, .inl (cy 2, 1, .inr (.inl f)))]) (av := [.ref x0, .int x1]) (rest := [.int 0, .ref oa]) S (m_Hubcascade_sleep_0 l D cy hst) (cwV 1 S.2.2.2.2 (lgV (lm_ _ (List.mem_of_getElem? (i := 74) rfl)) (lm_ _ (List.mem_of_getElem? (i := 75) rfl)) (lm_ _ (List.mem_of_getElem? (i := 76) rfl)) (lv_ _ (vm_4 _ (List.mem_of_getElem? (i := 20) rfl))) (lv_ _ (vm_7 _ (List.mem_of_getElem? (i := 17) rfl)))) rfl rfl rfl ⟨rfl, by decide, by decide, by decide +kernel⟩ ⟨Nat.le_of_ble_eq_true rfl, Nat.le_of_ble_eq_true rfl⟩) rfl ⟨_, _, _, _, _, _, rfl, rfl, rfl, rfl⟩ hK hN hs hT hP hD hS hA ht rfl ?_ (fun f hf => by cases hf) hl.1 rfl (Nat.le_of_ble_eq_true rfl) dL_sleep_4 ⟨Nat.le_of_ble_eq_true rfl, Nat.le_of_ble_eq_true rfl⟩ ?_ ?_
  · exact vi_tys_ok (ad := ad) (τ := τ) (as := q_Hubcascade_sleep_0.1) ⟨Or.inr ⟨q0, x0, hr0, hr1, rfl⟩, vi_okI x1, True.intro⟩
  · refine List.forall_mem_cons.mpr ⟨⟨[], ⟨0, 9, 12, 21⟩, [⟨0, 9, 15, 23⟩], htab, (fun _ h => absurd h List.not_mem_nil), by decide, by decide, hts _ (List.mem_cons_of_mem _ (lm_ _ (List.mem_of_getElem? (i := 5) rfl))), va_Nw.use rfl (hT.2.2.1 "java/lang/IndexOutOfBoundsException" (by decide)), fun qx H locs w1 hP hD hS ht hk => ?_⟩, ?_⟩
    · refine lv_astore_n (lv' := [(3, .ref qx), (0, .ref x0), (1, .int x1), (2, .ref oa)]) hx hb dL_sleep_12 rfl hl (by decide) rfl (fun ls hl => ?_)
      refine lv_iconst (v := 1) hx hb dL_sleep_13 (by decide) ?_
      exact W.iret hx hb hr (fun t ht9 _ => ⟨⟨_, w1, _, rfl, by rw [ht9]; exact hP, ht, hk⟩, hS.F ht9⟩) hS.2.2 dL_sleep_14
    refine List.forall_mem_cons.mpr ⟨⟨[⟨0, 9, 12, 21⟩], ⟨0, 9, 15, 23⟩, [], htab, (by intro z hz; simp only [List.mem_cons, List.not_mem_nil, or_false] at hz; subst hz; exact Or.inr ⟨by decide, "java/lang/IndexOutOfBoundsException", hts _ (List.mem_cons_of_mem _ (lm_ _ (List.mem_of_getElem? (i := 5) rfl))), hT.2.2.2.2 "java/lang/UnsupportedOperationException" (by decide) "java/lang/IndexOutOfBoundsException" (by decide) (by decide)⟩), by decide, by decide, hts _ (List.mem_cons_of_mem _ (lm_ _ (List.mem_of_getElem? (i := 171) rfl))), va_Nw.use rfl (hT.2.2.1 "java/lang/UnsupportedOperationException" (by decide)), fun qx H locs w1 hP hD hS ht hk => ?_⟩, ?_⟩
    · refine lv_astore_n (lv' := [(3, .ref qx), (0, .ref x0), (1, .int x1), (2, .ref oa)]) hx hb dL_sleep_15 rfl hl (by decide) rfl (fun ls hl => ?_)
      refine lv_iconst (v := 2) hx hb dL_sleep_16 (by decide) ?_
      exact W.iret hx hb hr (fun t ht9 _ => ⟨⟨_, w1, _, rfl, by rw [ht9]; exact hP, ht, hk⟩, hS.F ht9⟩) hS.2.2 dL_sleep_17
    exact fun q hq => by cases hq
  · intro alt halt H locs w1 v hP hD hS ht hk ha
    obtain ⟨y, rfl⟩ := vw_int (by decide +kernel) halt ha
    refine lv_i2l (v := y.toInt64) hx hb dL_sleep_7 rfl ?_
    refine va_last hx hb hK hP hD hS 0 2 rfl rfl (by unfold vp_in; decide) dL_sleep_8 (fun H locs hP hD hS => ?_)
    rw [my_upd0] at hP
    have hP : va_P D vwCl ((oa, .inl (cy 2, 1, .inr (.inl (vp_updL f 0 y.toInt64)))) :: w1) H := hP
    refine lv_goto (tgt := 18) hx hb dL_sleep_9 (by decide) ?_
    refine lv_iconst (v := 0) hx hb dL_sleep_18 (by decide) ?_
    exact W.iret hx hb hr (fun t ht9 _ => ⟨⟨_, w1, _, rfl, by rw [ht9]; exact hP, ht, hk⟩, hS.F ht9⟩) hS.2.2 dL_sleep_19

theorem dL_wake_0 : decode cL_wake 0 = .ok (.aload_n 2, 1) := by decide +kernel
theorem dL_wake_1 : decode cL_wake 1 = .ok (.iconst 0, 1) := by decide +kernel
theorem dL_wake_2 : decode cL_wake 2 = .ok (.aload_n 0, 1) := by decide +kernel
theorem dL_wake_3 : decode cL_wake 3 = .ok (.iload_n 1, 1) := by decide +kernel
theorem dL_wake_4 : decode cL_wake 4 = .ok (.invokevirtual 71, 3) := by decide +kernel
theorem dL_wake_7 : decode cL_wake 7 = .ok (.i2l, 1) := by decide +kernel
theorem dL_wake_8 : decode cL_wake 8 = .ok (.lastore, 1) := by decide +kernel
theorem dL_wake_9 : decode cL_wake 9 = .ok (.goto 9, 3) := by decide +kernel
theorem dL_wake_12 : decode cL_wake 12 = .ok (.astore_n 3, 1) := by decide +kernel
theorem dL_wake_13 : decode cL_wake 13 = .ok (.iconst 1, 1) := by decide +kernel
theorem dL_wake_14 : decode cL_wake 14 = .ok (.ireturn, 1) := by decide +kernel
theorem dL_wake_15 : decode cL_wake 15 = .ok (.astore_n 3, 1) := by decide +kernel
theorem dL_wake_16 : decode cL_wake 16 = .ok (.iconst 2, 1) := by decide +kernel
theorem dL_wake_17 : decode cL_wake 17 = .ok (.ireturn, 1) := by decide +kernel
theorem dL_wake_18 : decode cL_wake 18 = .ok (.iconst 0, 1) := by decide +kernel
theorem dL_wake_19 : decode cL_wake 19 = .ok (.ireturn, 1) := by decide +kernel
set_option maxRecDepth 100000 in
set_option maxHeartbeats 4000000 in
theorem w_wake (l : Launch) (D : va_G) (cy : Nat → ClassId) (hst : l.stackTraces = false) {ad τ : List Nat} {w : va_W} (sz oa : Nat) (f : Nat → Int64) (hs : vi_s1 vSG τ) (ht : vi_tw vK cy (fun _ => True) ad τ w) {x0 q0 : Nat} (hr0 : τ[q0]? = some 0) (hr1 : ad[q0]? = some x0) (x1 : Int32) : vw_M l D cy vK ad τ oa f w sz q_Hubcascade_wake_0.2.2.2.1 yL_wake (Cond.codeWith yL_wake cL_wake 4 (some .int) [(0, 9, 12, 21), (0, 9, 15, 23)] :: lWall) 8 2 136 [.ref x0, .int x1, .ref oa] := by
  refine wr_ofW (cc := cL_wake) (maxL := 4) (ret := (some .int)) (hh := [(0, 9, 12, 21), (0, 9, 15, 23)]) (lv := [(0, .ref x0), (1, .int x1), (2, .ref oa)]) (by decide) rfl (Nat.le_of_ble_eq_true rfl) rfl ?_
  intro p e s m below meth c ls hx hb hr hml hown hlocks htab hts hv hl
  have hown : s.vm.findClass RL = some m.cls := hown
  obtain ⟨⟨⟨hsz, hP, hD0⟩, hK, hN⟩, hT⟩ := hv
  subst hsz
  have hD := hD0.self (sz := s.heap.size)
  generalize hAe : va_A ((oa, .inl (cy 2, 1, .inr (.inl f))) :: w) s.heap.size = A at hD hT ⊢
  have hA : ∀ q : Nat, s.heap.size ≤ q → A q := fun q h => by rw [← hAe]; exact Or.inr h
  have hS : va_S A s.heap s.heap [] := va_S.rf
  have hP : va_P D vwCl ([(oa, .inl (cy 2, 1, .inr (.inl f)))] ++ w) s.heap := hP
  have hD : va_D A ([(oa, .inl (cy 2, 1, .inr (.inl f)))] ++ w) := hD
  have S : CallFix p m c cL_wake 4 s _ (_ :: lWall) RL := ⟨hx, hb, hml, hown, hts⟩
  refine lv_aload_n hx hb dL_wake_0 rfl (lv_at hl 2 rfl) ?_
  refine lv_iconst (v := 0) hx hb dL_wake_1 (by decide) ?_
  refine lv_aload_n hx hb dL_wake_2 rfl (lv_at hl 0 rfl) ?_
  refine lv_iload_n hx hb dL_wake_3 rfl (lv_at hl 1 rfl) ?_
  refine vi_catchV (wr := [(oa, .inl (cy 2, 1, .inr (.inl f)))]) (av := [.ref x0, .int x1]) (rest := [.int 0, .ref oa]) S (m_Hubcascade_wake_0 l D cy hst) (cwV 1 S.2.2.2.2 (lgV (lm_ _ (List.mem_of_getElem? (i := 79) rfl)) (lm_ _ (List.mem_of_getElem? (i := 80) rfl)) (lm_ _ (List.mem_of_getElem? (i := 81) rfl)) (lv_ _ (vm_4 _ (List.mem_of_getElem? (i := 20) rfl))) (lv_ _ (vm_7 _ (List.mem_of_getElem? (i := 21) rfl)))) rfl rfl rfl ⟨rfl, by decide, by decide, by decide +kernel⟩ ⟨Nat.le_of_ble_eq_true rfl, Nat.le_of_ble_eq_true rfl⟩) rfl ⟨_, _, _, _, _, _, rfl, rfl, rfl, rfl⟩ hK hN hs hT hP hD hS hA ht rfl ?_ (fun f hf => by cases hf) hl.1 rfl (Nat.le_of_ble_eq_true rfl) dL_wake_4 ⟨Nat.le_of_ble_eq_true rfl, Nat.le_of_ble_eq_true rfl⟩ ?_ ?_
  · exact vi_tys_ok (ad := ad) (τ := τ) (as := q_Hubcascade_wake_0.1) ⟨Or.inr ⟨q0, x0, hr0, hr1, rfl⟩, vi_okI x1, True.intro⟩
  · refine List.forall_mem_cons.mpr ⟨⟨[], ⟨0, 9, 12, 21⟩, [⟨0, 9, 15, 23⟩], htab, (fun _ h => absurd h List.not_mem_nil), by decide, by decide, hts _ (List.mem_cons_of_mem _ (lm_ _ (List.mem_of_getElem? (i := 5) rfl))), va_Nw.use rfl (hT.2.2.1 "java/lang/IndexOutOfBoundsException" (by decide)), fun qx H locs w1 hP hD hS ht hk => ?_⟩, ?_⟩
    · refine lv_astore_n (lv' := [(3, .ref qx), (0, .ref x0), (1, .int x1), (2, .ref oa)]) hx hb dL_wake_12 rfl hl (by decide) rfl (fun ls hl => ?_)
      refine lv_iconst (v := 1) hx hb dL_wake_13 (by decide) ?_
      exact W.iret hx hb hr (fun t ht9 _ => ⟨⟨_, w1, _, rfl, by rw [ht9]; exact hP, ht, hk⟩, hS.F ht9⟩) hS.2.2 dL_wake_14
    refine List.forall_mem_cons.mpr ⟨⟨[⟨0, 9, 12, 21⟩], ⟨0, 9, 15, 23⟩, [], htab, (by intro z hz; simp only [List.mem_cons, List.not_mem_nil, or_false] at hz; subst hz; exact Or.inr ⟨by decide, "java/lang/IndexOutOfBoundsException", hts _ (List.mem_cons_of_mem _ (lm_ _ (List.mem_of_getElem? (i := 5) rfl))), hT.2.2.2.2 "java/lang/UnsupportedOperationException" (by decide) "java/lang/IndexOutOfBoundsException" (by decide) (by decide)⟩), by decide, by decide, hts _ (List.mem_cons_of_mem _ (lm_ _ (List.mem_of_getElem? (i := 171) rfl))), va_Nw.use rfl (hT.2.2.1 "java/lang/UnsupportedOperationException" (by decide)), fun qx H locs w1 hP hD hS ht hk => ?_⟩, ?_⟩
    · refine lv_astore_n (lv' := [(3, .ref qx), (0, .ref x0), (1, .int x1), (2, .ref oa)]) hx hb dL_wake_15 rfl hl (by decide) rfl (fun ls hl => ?_)
      refine lv_iconst (v := 2) hx hb dL_wake_16 (by decide) ?_
      exact W.iret hx hb hr (fun t ht9 _ => ⟨⟨_, w1, _, rfl, by rw [ht9]; exact hP, ht, hk⟩, hS.F ht9⟩) hS.2.2 dL_wake_17
    exact fun q hq => by cases hq
  · intro alt halt H locs w1 v hP hD hS ht hk ha
    obtain ⟨y, rfl⟩ := vw_int (by decide +kernel) halt ha
    refine lv_i2l (v := y.toInt64) hx hb dL_wake_7 rfl ?_
    refine va_last hx hb hK hP hD hS 0 2 rfl rfl (by unfold vp_in; decide) dL_wake_8 (fun H locs hP hD hS => ?_)
    rw [my_upd0] at hP
    have hP : va_P D vwCl ((oa, .inl (cy 2, 1, .inr (.inl (vp_updL f 0 y.toInt64)))) :: w1) H := hP
    refine lv_goto (tgt := 18) hx hb dL_wake_9 (by decide) ?_
    refine lv_iconst (v := 0) hx hb dL_wake_18 (by decide) ?_
    exact W.iret hx hb hr (fun t ht9 _ => ⟨⟨_, w1, _, rfl, by rw [ht9]; exact hP, ht, hk⟩, hS.F ht9⟩) hS.2.2 dL_wake_19

theorem dL_five_0 : decode cL_five 0 = .ok (.aload_n 2, 1) := by decide +kernel
theorem dL_five_1 : decode cL_five 1 = .ok (.iconst 0, 1) := by decide +kernel
theorem dL_five_2 : decode cL_five 2 = .ok (.aload_n 0, 1) := by decide +kernel
theorem dL_five_3 : decode cL_five 3 = .ok (.iload_n 1, 1) := by decide +kernel
theorem dL_five_4 : decode cL_five 4 = .ok (.invokevirtual 74, 3) := by decide +kernel
theorem dL_five_7 : decode cL_five 7 = .ok (.i2l, 1) := by decide +kernel
theorem dL_five_8 : decode cL_five 8 = .ok (.lastore, 1) := by decide +kernel
theorem dL_five_9 : decode cL_five 9 = .ok (.goto 6, 3) := by decide +kernel
theorem dL_five_12 : decode cL_five 12 = .ok (.astore_n 3, 1) := by decide +kernel
theorem dL_five_13 : decode cL_five 13 = .ok (.iconst 1, 1) := by decide +kernel
theorem dL_five_14 : decode cL_five 14 = .ok (.ireturn, 1) := by decide +kernel
theorem dL_five_15 : decode cL_five 15 = .ok (.iconst 0, 1) := by decide +kernel
theorem dL_five_16 : decode cL_five 16 = .ok (.ireturn, 1) := by decide +kernel
set_option maxRecDepth 100000 in
set_option maxHeartbeats 4000000 in
theorem w_five (l : Launch) (D : va_G) (cy : Nat → ClassId) (hst : l.stackTraces = false) {ad τ : List Nat} {w : va_W} (sz oa : Nat) (f : Nat → Int64) (hs : vi_s1 vSG τ) (ht : vi_tw vK cy (fun _ => True) ad τ w) {x0 q0 : Nat} (hr0 : τ[q0]? = some 0) (hr1 : ad[q0]? = some x0) (x1 : Int32) : vw_M l D cy vK ad τ oa f w sz q_Hubcascade_five_0.2.2.2.1 yL_five (Cond.codeWith yL_five cL_five 4 (some .int) [(0, 9, 12, 13)] :: lWall) 7 1 113 [.ref x0, .int x1, .ref oa] := by
  refine wr_ofW (cc := cL_five) (maxL := 4) (ret := (some .int)) (hh := [(0, 9, 12, 13)]) (lv := [(0, .ref x0), (1, .int x1), (2, .ref oa)]) (by decide) rfl (Nat.le_of_ble_eq_true rfl) rfl ?_
  intro p e s m below meth c ls hx hb hr hml hown hlocks htab hts hv hl
  have hown : s.vm.findClass RL = some m.cls := hown
  obtain ⟨⟨⟨hsz, hP, hD0⟩, hK, hN⟩, hT⟩ := hv
  subst hsz
  have hD := hD0.self (sz := s.heap.size)
  generalize hAe : va_A ((oa, .inl (cy 2, 1, .inr (.inl f))) :: w) s.heap.size = A at hD hT ⊢
  have hA : ∀ q : Nat, s.heap.size ≤ q → A q := fun q h => by rw [← hAe]; exact Or.inr h
  have hS : va_S A s.heap s.heap [] := va_S.rf
  have hP : va_P D vwCl ([(oa, .inl (cy 2, 1, .inr (.inl f)))] ++ w) s.heap := hP
  have hD : va_D A ([(oa, .inl (cy 2, 1, .inr (.inl f)))] ++ w) := hD
  have S : CallFix p m c cL_five 4 s _ (_ :: lWall) RL := ⟨hx, hb, hml, hown, hts⟩
  refine lv_aload_n hx hb dL_five_0 rfl (lv_at hl 2 rfl) ?_
  refine lv_iconst (v := 0) hx hb dL_five_1 (by decide) ?_
  refine lv_aload_n hx hb dL_five_2 rfl (lv_at hl 0 rfl) ?_
  refine lv_iload_n hx hb dL_five_3 rfl (lv_at hl 1 rfl) ?_
  refine vi_catchV (wr := [(oa, .inl (cy 2, 1, .inr (.inl f)))]) (av := [.ref x0, .int x1]) (rest := [.int 0, .ref oa]) S (m_Hubcascade_five_0 l D cy hst) (cwV 1 S.2.2.2.2 (lgV (lm_ _ (List.mem_of_getElem? (i := 82) rfl)) (lm_ _ (List.mem_of_getElem? (i := 83) rfl)) (lm_ _ (List.mem_of_getElem? (i := 84) rfl)) (lv_ _ (vm_4 _ (List.mem_of_getElem? (i := 20) rfl))) (lv_ _ (vm_7 _ (List.mem_of_getElem? (i := 24) rfl)))) rfl rfl rfl ⟨rfl, by decide, by decide, by decide +kernel⟩ ⟨Nat.le_of_ble_eq_true rfl, Nat.le_of_ble_eq_true rfl⟩) rfl ⟨_, _, _, _, _, _, rfl, rfl, rfl, rfl⟩ hK hN hs hT hP hD hS hA ht rfl ?_ (fun f hf => by cases hf) hl.1 rfl (Nat.le_of_ble_eq_true rfl) dL_five_4 ⟨Nat.le_of_ble_eq_true rfl, Nat.le_of_ble_eq_true rfl⟩ ?_ ?_
  · exact vi_tys_ok (ad := ad) (τ := τ) (as := q_Hubcascade_five_0.1) ⟨Or.inr ⟨q0, x0, hr0, hr1, rfl⟩, vi_okI x1, True.intro⟩
  · refine List.forall_mem_cons.mpr ⟨⟨[], ⟨0, 9, 12, 13⟩, [], htab, (fun _ h => absurd h List.not_mem_nil), by decide, by decide, hts _ (List.mem_cons_of_mem _ (lm_ _ (List.mem_of_getElem? (i := 0) rfl))), va_Nw.use rfl (hT.2.2.1 "java/lang/IllegalArgumentException" (by decide)), fun qx H locs w1 hP hD hS ht hk => ?_⟩, ?_⟩
    · refine lv_astore_n (lv' := [(3, .ref qx), (0, .ref x0), (1, .int x1), (2, .ref oa)]) hx hb dL_five_12 rfl hl (by decide) rfl (fun ls hl => ?_)
      refine lv_iconst (v := 1) hx hb dL_five_13 (by decide) ?_
      exact W.iret hx hb hr (fun t ht9 _ => ⟨⟨_, w1, _, rfl, by rw [ht9]; exact hP, ht, hk⟩, hS.F ht9⟩) hS.2.2 dL_five_14
    exact fun q hq => by cases hq
  · intro alt halt H locs w1 v hP hD hS ht hk ha
    obtain ⟨y, rfl⟩ := vw_int (by decide +kernel) halt ha
    refine lv_i2l (v := y.toInt64) hx hb dL_five_7 rfl ?_
    refine va_last hx hb hK hP hD hS 0 2 rfl rfl (by unfold vp_in; decide) dL_five_8 (fun H locs hP hD hS => ?_)
    rw [my_upd0] at hP
    have hP : va_P D vwCl ((oa, .inl (cy 2, 1, .inr (.inl (vp_updL f 0 y.toInt64)))) :: w1) H := hP
    refine lv_goto (tgt := 15) hx hb dL_five_9 (by decide) ?_
    refine lv_iconst (v := 0) hx hb dL_five_15 (by decide) ?_
    exact W.iret hx hb hr (fun t ht9 _ => ⟨⟨_, w1, _, rfl, by rw [ht9]; exact hP, ht, hk⟩, hS.F ht9⟩) hS.2.2 dL_five_16

theorem dL_type_0 : decode cL_type 0 = .ok (.aload_n 2, 1) := by decide +kernel
theorem dL_type_1 : decode cL_type 1 = .ok (.iconst 0, 1) := by decide +kernel
theorem dL_type_2 : decode cL_type 2 = .ok (.aload_n 0, 1) := by decide +kernel
theorem dL_type_3 : decode cL_type 3 = .ok (.iload_n 1, 1) := by decide +kernel
theorem dL_type_4 : decode cL_type 4 = .ok (.invokevirtual 77, 3) := by decide +kernel
theorem dL_type_7 : decode cL_type 7 = .ok (.i2l, 1) := by decide +kernel
theorem dL_type_8 : decode cL_type 8 = .ok (.lastore, 1) := by decide +kernel
theorem dL_type_9 : decode cL_type 9 = .ok (.goto 9, 3) := by decide +kernel
theorem dL_type_12 : decode cL_type 12 = .ok (.astore_n 3, 1) := by decide +kernel
theorem dL_type_13 : decode cL_type 13 = .ok (.iconst 1, 1) := by decide +kernel
theorem dL_type_14 : decode cL_type 14 = .ok (.ireturn, 1) := by decide +kernel
theorem dL_type_15 : decode cL_type 15 = .ok (.astore_n 3, 1) := by decide +kernel
theorem dL_type_16 : decode cL_type 16 = .ok (.iconst 2, 1) := by decide +kernel
theorem dL_type_17 : decode cL_type 17 = .ok (.ireturn, 1) := by decide +kernel
theorem dL_type_18 : decode cL_type 18 = .ok (.iconst 0, 1) := by decide +kernel
theorem dL_type_19 : decode cL_type 19 = .ok (.ireturn, 1) := by decide +kernel
set_option maxRecDepth 100000 in
set_option maxHeartbeats 4000000 in
theorem w_type (l : Launch) (D : va_G) (cy : Nat → ClassId) (hst : l.stackTraces = false) {ad τ : List Nat} {w : va_W} (sz oa : Nat) (f : Nat → Int64) (hs : vi_s1 vSG τ) (ht : vi_tw vK cy (fun _ => True) ad τ w) {x0 q0 : Nat} (hr0 : τ[q0]? = some 0) (hr1 : ad[q0]? = some x0) (x1 : Int32) : vw_M l D cy vK ad τ oa f w sz q_Hubcascade_type_0.2.2.2.1 yL_type (Cond.codeWith yL_type cL_type 4 (some .int) [(0, 9, 12, 13), (0, 9, 15, 15)] :: lWall) 7 1 111 [.ref x0, .int x1, .ref oa] := by
  refine wr_ofW (cc := cL_type) (maxL := 4) (ret := (some .int)) (hh := [(0, 9, 12, 13), (0, 9, 15, 15)]) (lv := [(0, .ref x0), (1, .int x1), (2, .ref oa)]) (by decide) rfl (Nat.le_of_ble_eq_true rfl) rfl ?_
  intro p e s m below meth c ls hx hb hr hml hown hlocks htab hts hv hl
  have hown : s.vm.findClass RL = some m.cls := hown
  obtain ⟨⟨⟨hsz, hP, hD0⟩, hK, hN⟩, hT⟩ := hv
  subst hsz
  have hD := hD0.self (sz := s.heap.size)
  generalize hAe : va_A ((oa, .inl (cy 2, 1, .inr (.inl f))) :: w) s.heap.size = A at hD hT ⊢
  have hA : ∀ q : Nat, s.heap.size ≤ q → A q := fun q h => by rw [← hAe]; exact Or.inr h
  have hS : va_S A s.heap s.heap [] := va_S.rf
  have hP : va_P D vwCl ([(oa, .inl (cy 2, 1, .inr (.inl f)))] ++ w) s.heap := hP
  have hD : va_D A ([(oa, .inl (cy 2, 1, .inr (.inl f)))] ++ w) := hD
  have S : CallFix p m c cL_type 4 s _ (_ :: lWall) RL := ⟨hx, hb, hml, hown, hts⟩
  refine lv_aload_n hx hb dL_type_0 rfl (lv_at hl 2 rfl) ?_
  refine lv_iconst (v := 0) hx hb dL_type_1 (by decide) ?_
  refine lv_aload_n hx hb dL_type_2 rfl (lv_at hl 0 rfl) ?_
  refine lv_iload_n hx hb dL_type_3 rfl (lv_at hl 1 rfl) ?_
  refine vi_catchV (wr := [(oa, .inl (cy 2, 1, .inr (.inl f)))]) (av := [.ref x0, .int x1]) (rest := [.int 0, .ref oa]) S (m_Hubcascade_type_0 l D cy hst) (cwV 1 S.2.2.2.2 (lgV (lm_ _ (List.mem_of_getElem? (i := 85) rfl)) (lm_ _ (List.mem_of_getElem? (i := 86) rfl)) (lm_ _ (List.mem_of_getElem? (i := 87) rfl)) (lv_ _ (vm_4 _ (List.mem_of_getElem? (i := 20) rfl))) (lv_ _ (vm_7 _ (List.mem_of_getElem? (i := 27) rfl)))) rfl rfl rfl ⟨rfl, by decide, by decide, by decide +kernel⟩ ⟨Nat.le_of_ble_eq_true rfl, Nat.le_of_ble_eq_true rfl⟩) rfl ⟨_, _, _, _, _, _, rfl, rfl, rfl, rfl⟩ hK hN hs hT hP hD hS hA ht rfl ?_ (fun f hf => by cases hf) hl.1 rfl (Nat.le_of_ble_eq_true rfl) dL_type_4 ⟨Nat.le_of_ble_eq_true rfl, Nat.le_of_ble_eq_true rfl⟩ ?_ ?_
  · exact vi_tys_ok (ad := ad) (τ := τ) (as := q_Hubcascade_type_0.1) ⟨Or.inr ⟨q0, x0, hr0, hr1, rfl⟩, vi_okI x1, True.intro⟩
  · refine List.forall_mem_cons.mpr ⟨⟨[], ⟨0, 9, 12, 13⟩, [⟨0, 9, 15, 15⟩], htab, (fun _ h => absurd h List.not_mem_nil), by decide, by decide, hts _ (List.mem_cons_of_mem _ (lm_ _ (List.mem_of_getElem? (i := 0) rfl))), va_Nw.use rfl (hT.2.2.1 "java/lang/IllegalArgumentException" (by decide)), fun qx H locs w1 hP hD hS ht hk => ?_⟩, ?_⟩
    · refine lv_astore_n (lv' := [(3, .ref qx), (0, .ref x0), (1, .int x1), (2, .ref oa)]) hx hb dL_type_12 rfl hl (by decide) rfl (fun ls hl => ?_)
      refine lv_iconst (v := 1) hx hb dL_type_13 (by decide) ?_
      exact W.iret hx hb hr (fun t ht9 _ => ⟨⟨_, w1, _, rfl, by rw [ht9]; exact hP, ht, hk⟩, hS.F ht9⟩) hS.2.2 dL_type_14
    refine List.forall_mem_cons.mpr ⟨⟨[⟨0, 9, 12, 13⟩], ⟨0, 9, 15, 15⟩, [], htab, (by intro z hz; simp only [List.mem_cons, List.not_mem_nil, or_false] at hz; subst hz; exact Or.inr ⟨by decide, "java/lang/IllegalArgumentException", hts _ (List.mem_cons_of_mem _ (lm_ _ (List.mem_of_getElem? (i := 0) rfl))), hT.2.2.2.2 "java/lang/IllegalStateException" (by decide) "java/lang/IllegalArgumentException" (by decide) (by decide)⟩), by decide, by decide, hts _ (List.mem_cons_of_mem _ (lm_ _ (List.mem_of_getElem? (i := 170) rfl))), va_Nw.use rfl (hT.2.2.1 "java/lang/IllegalStateException" (by decide)), fun qx H locs w1 hP hD hS ht hk => ?_⟩, ?_⟩
    · refine lv_astore_n (lv' := [(3, .ref qx), (0, .ref x0), (1, .int x1), (2, .ref oa)]) hx hb dL_type_15 rfl hl (by decide) rfl (fun ls hl => ?_)
      refine lv_iconst (v := 2) hx hb dL_type_16 (by decide) ?_
      exact W.iret hx hb hr (fun t ht9 _ => ⟨⟨_, w1, _, rfl, by rw [ht9]; exact hP, ht, hk⟩, hS.F ht9⟩) hS.2.2 dL_type_17
    exact fun q hq => by cases hq
  · intro alt halt H locs w1 v hP hD hS ht hk ha
    obtain ⟨y, rfl⟩ := vw_int (by decide +kernel) halt ha
    refine lv_i2l (v := y.toInt64) hx hb dL_type_7 rfl ?_
    refine va_last hx hb hK hP hD hS 0 2 rfl rfl (by unfold vp_in; decide) dL_type_8 (fun H locs hP hD hS => ?_)
    rw [my_upd0] at hP
    have hP : va_P D vwCl ((oa, .inl (cy 2, 1, .inr (.inl (vp_updL f 0 y.toInt64)))) :: w1) H := hP
    refine lv_goto (tgt := 18) hx hb dL_type_9 (by decide) ?_
    refine lv_iconst (v := 0) hx hb dL_type_18 (by decide) ?_
    exact W.iret hx hb hr (fun t ht9 _ => ⟨⟨_, w1, _, rfl, by rw [ht9]; exact hP, ht, hk⟩, hS.F ht9⟩) hS.2.2 dL_type_19

theorem dL_open_0 : decode cL_open 0 = .ok (.aload 5, 2) := by decide +kernel
theorem dL_open_2 : decode cL_open 2 = .ok (.iconst 0, 1) := by decide +kernel
theorem dL_open_3 : decode cL_open 3 = .ok (.aload_n 0, 1) := by decide +kernel
theorem dL_open_4 : decode cL_open 4 = .ok (.iload_n 1, 1) := by decide +kernel
theorem dL_open_5 : decode cL_open 5 = .ok (.iload_n 2, 1) := by decide +kernel
theorem dL_open_6 : decode cL_open 6 = .ok (.iload_n 3, 1) := by decide +kernel
theorem dL_open_7 : decode cL_open 7 = .ok (.iload 4, 2) := by decide +kernel
theorem dL_open_9 : decode cL_open 9 = .ok (.invokevirtual 80, 3) := by decide +kernel
theorem dL_open_12 : decode cL_open 12 = .ok (.i2l, 1) := by decide +kernel
theorem dL_open_13 : decode cL_open 13 = .ok (.lastore, 1) := by decide +kernel
theorem dL_open_14 : decode cL_open 14 = .ok (.goto 19, 3) := by decide +kernel
theorem dL_open_17 : decode cL_open 17 = .ok (.astore 6, 2) := by decide +kernel
theorem dL_open_19 : decode cL_open 19 = .ok (.iconst 1, 1) := by decide +kernel
theorem dL_open_20 : decode cL_open 20 = .ok (.ireturn, 1) := by decide +kernel
theorem dL_open_21 : decode cL_open 21 = .ok (.astore 6, 2) := by decide +kernel
theorem dL_open_23 : decode cL_open 23 = .ok (.iconst 2, 1) := by decide +kernel
theorem dL_open_24 : decode cL_open 24 = .ok (.ireturn, 1) := by decide +kernel
theorem dL_open_25 : decode cL_open 25 = .ok (.astore 6, 2) := by decide +kernel
theorem dL_open_27 : decode cL_open 27 = .ok (.iconst 3, 1) := by decide +kernel
theorem dL_open_28 : decode cL_open 28 = .ok (.ireturn, 1) := by decide +kernel
theorem dL_open_29 : decode cL_open 29 = .ok (.astore 6, 2) := by decide +kernel
theorem dL_open_31 : decode cL_open 31 = .ok (.iconst 4, 1) := by decide +kernel
theorem dL_open_32 : decode cL_open 32 = .ok (.ireturn, 1) := by decide +kernel
theorem dL_open_33 : decode cL_open 33 = .ok (.iconst 0, 1) := by decide +kernel
theorem dL_open_34 : decode cL_open 34 = .ok (.ireturn, 1) := by decide +kernel
set_option maxRecDepth 100000 in
set_option maxHeartbeats 4000000 in
theorem w_open (l : Launch) (D : va_G) (cy : Nat → ClassId) (hst : l.stackTraces = false) {ad τ : List Nat} {w : va_W} (sz oa : Nat) (f : Nat → Int64) (hs : vi_s1 vSG τ) (ht : vi_tw vK cy (fun _ => True) ad τ w) {x0 q0 : Nat} (hr0 : τ[q0]? = some 0) (hr1 : ad[q0]? = some x0) (x1 : Int32) (x2 : Int32) (x3 : Int32) (hx3 : 0 ≤ x3.toInt ∧ x3.toInt ≤ 65535) (x4 : Int32) : vw_M l D cy vK ad τ oa f w sz q_Hubcascade_open_0.2.2.2.1 yL_open (Cond.codeWith yL_open cL_open 7 (some .int) [(0, 14, 17, 21), (0, 14, 21, 13), (0, 14, 25, 23), (0, 14, 29, 15)] :: lWall) 8 3 139 [.ref x0, .int x1, .int x2, .int x3, .int x4, .ref oa] := by
  refine wr_ofW (cc := cL_open) (maxL := 7) (ret := (some .int)) (hh := [(0, 14, 17, 21), (0, 14, 21, 13), (0, 14, 25, 23), (0, 14, 29, 15)]) (lv := [(0, .ref x0), (1, .int x1), (2, .int x2), (3, .int x3), (4, .int x4), (5, .ref oa)]) (by decide) rfl (Nat.le_of_ble_eq_true rfl) rfl ?_
  intro p e s m below meth c ls hx hb hr hml hown hlocks htab hts hv hl
  have hown : s.vm.findClass RL = some m.cls := hown
  obtain ⟨⟨⟨hsz, hP, hD0⟩, hK, hN⟩, hT⟩ := hv
  subst hsz
  have hD := hD0.self (sz := s.heap.size)
  generalize hAe : va_A ((oa, .inl (cy 2, 1, .inr (.inl f))) :: w) s.heap.size = A at hD hT ⊢
  have hA : ∀ q : Nat, s.heap.size ≤ q → A q := fun q h => by rw [← hAe]; exact Or.inr h
  have hS : va_S A s.heap s.heap [] := va_S.rf
  have hP : va_P D vwCl ([(oa, .inl (cy 2, 1, .inr (.inl f)))] ++ w) s.heap := hP
  have hD : va_D A ([(oa, .inl (cy 2, 1, .inr (.inl f)))] ++ w) := hD
  have S : CallFix p m c cL_open 7 s _ (_ :: lWall) RL := ⟨hx, hb, hml, hown, hts⟩
  refine lv_aload hx hb dL_open_0 (lv_at hl 5 rfl) ?_
  refine lv_iconst (v := 0) hx hb dL_open_2 (by decide) ?_
  refine lv_aload_n hx hb dL_open_3 rfl (lv_at hl 0 rfl) ?_
  refine lv_iload_n hx hb dL_open_4 rfl (lv_at hl 1 rfl) ?_
  refine lv_iload_n hx hb dL_open_5 rfl (lv_at hl 2 rfl) ?_
  refine lv_iload_n hx hb dL_open_6 rfl (lv_at hl 3 rfl) ?_
  refine lv_iload hx hb dL_open_7 (lv_at hl 4 rfl) ?_
  refine vi_catchV (wr := [(oa, .inl (cy 2, 1, .inr (.inl f)))]) (av := [.ref x0, .int x1, .int x2, .int x3, .int x4]) (rest := [.int 0, .ref oa]) S (m_Hubcascade_open_0 l D cy hst) (cwV 4 S.2.2.2.2 (lgV (lm_ _ (List.mem_of_getElem? (i := 88) rfl)) (lm_ _ (List.mem_of_getElem? (i := 89) rfl)) (lm_ _ (List.mem_of_getElem? (i := 90) rfl)) (lv_ _ (vm_4 _ (List.mem_of_getElem? (i := 20) rfl))) (lv_ _ (vm_8 _ (List.mem_of_getElem? (i := 14) rfl)))) rfl rfl rfl ⟨rfl, by decide, by decide, by decide +kernel⟩ ⟨Nat.le_of_ble_eq_true rfl, Nat.le_of_ble_eq_true rfl⟩) rfl ⟨_, _, _, _, _, _, rfl, rfl, rfl, rfl⟩ hK hN hs hT hP hD hS hA ht rfl ?_ (fun f hf => by cases hf) hl.1 rfl (Nat.le_of_ble_eq_true rfl) dL_open_9 ⟨Nat.le_of_ble_eq_true rfl, Nat.le_of_ble_eq_true rfl⟩ ?_ ?_
  · exact vi_tys_ok (ad := ad) (τ := τ) (as := q_Hubcascade_open_0.1) ⟨Or.inr ⟨q0, x0, hr0, hr1, rfl⟩, vi_okI x1, vi_okI x2, ⟨x3, rfl, hx3⟩, vi_okI x4, True.intro⟩
  · refine List.forall_mem_cons.mpr ⟨⟨[], ⟨0, 14, 17, 21⟩, [⟨0, 14, 21, 13⟩, ⟨0, 14, 25, 23⟩, ⟨0, 14, 29, 15⟩], htab, (fun _ h => absurd h List.not_mem_nil), by decide, by decide, hts _ (List.mem_cons_of_mem _ (lm_ _ (List.mem_of_getElem? (i := 5) rfl))), va_Nw.use rfl (hT.2.2.1 "java/lang/IndexOutOfBoundsException" (by decide)), fun qx H locs w1 hP hD hS ht hk => ?_⟩, ?_⟩
    · refine lv_astore (lv' := [(6, .ref qx), (0, .ref x0), (1, .int x1), (2, .int x2), (3, .int x3), (4, .int x4), (5, .ref oa)]) hx hb dL_open_17 hl (by decide) rfl (fun ls hl => ?_)
      refine lv_iconst (v := 1) hx hb dL_open_19 (by decide) ?_
      exact W.iret hx hb hr (fun t ht9 _ => ⟨⟨_, w1, _, rfl, by rw [ht9]; exact hP, ht, hk⟩, hS.F ht9⟩) hS.2.2 dL_open_20
    refine List.forall_mem_cons.mpr ⟨⟨[⟨0, 14, 17, 21⟩], ⟨0, 14, 21, 13⟩, [⟨0, 14, 25, 23⟩, ⟨0, 14, 29, 15⟩], htab, (by intro z hz; simp only [List.mem_cons, List.not_mem_nil, or_false] at hz; subst hz; exact Or.inr ⟨by decide, "java/lang/IndexOutOfBoundsException", hts _ (List.mem_cons_of_mem _ (lm_ _ (List.mem_of_getElem? (i := 5) rfl))), hT.2.2.2.2 "java/lang/IllegalArgumentException" (by decide) "java/lang/IndexOutOfBoundsException" (by decide) (by decide)⟩), by decide, by decide, hts _ (List.mem_cons_of_mem _ (lm_ _ (List.mem_of_getElem? (i := 0) rfl))), va_Nw.use rfl (hT.2.2.1 "java/lang/IllegalArgumentException" (by decide)), fun qx H locs w1 hP hD hS ht hk => ?_⟩, ?_⟩
    · refine lv_astore (lv' := [(6, .ref qx), (0, .ref x0), (1, .int x1), (2, .int x2), (3, .int x3), (4, .int x4), (5, .ref oa)]) hx hb dL_open_21 hl (by decide) rfl (fun ls hl => ?_)
      refine lv_iconst (v := 2) hx hb dL_open_23 (by decide) ?_
      exact W.iret hx hb hr (fun t ht9 _ => ⟨⟨_, w1, _, rfl, by rw [ht9]; exact hP, ht, hk⟩, hS.F ht9⟩) hS.2.2 dL_open_24
    refine List.forall_mem_cons.mpr ⟨⟨[⟨0, 14, 17, 21⟩, ⟨0, 14, 21, 13⟩, ⟨0, 14, 25, 23⟩], ⟨0, 14, 29, 15⟩, [], htab, (by intro z hz; simp only [List.mem_cons, List.not_mem_nil, or_false] at hz; rcases hz with rfl | rfl | rfl <;> first | exact Or.inr ⟨by decide, "java/lang/IndexOutOfBoundsException", hts _ (List.mem_cons_of_mem _ (lm_ _ (List.mem_of_getElem? (i := 5) rfl))), hT.2.2.2.2 "java/lang/IllegalStateException" (by decide) "java/lang/IndexOutOfBoundsException" (by decide) (by decide)⟩ | exact Or.inr ⟨by decide, "java/lang/IllegalArgumentException", hts _ (List.mem_cons_of_mem _ (lm_ _ (List.mem_of_getElem? (i := 0) rfl))), hT.2.2.2.2 "java/lang/IllegalStateException" (by decide) "java/lang/IllegalArgumentException" (by decide) (by decide)⟩ | exact Or.inr ⟨by decide, "java/lang/UnsupportedOperationException", hts _ (List.mem_cons_of_mem _ (lm_ _ (List.mem_of_getElem? (i := 171) rfl))), hT.2.2.2.2 "java/lang/IllegalStateException" (by decide) "java/lang/UnsupportedOperationException" (by decide) (by decide)⟩), by decide, by decide, hts _ (List.mem_cons_of_mem _ (lm_ _ (List.mem_of_getElem? (i := 170) rfl))), va_Nw.use rfl (hT.2.2.1 "java/lang/IllegalStateException" (by decide)), fun qx H locs w1 hP hD hS ht hk => ?_⟩, ?_⟩
    · refine lv_astore (lv' := [(6, .ref qx), (0, .ref x0), (1, .int x1), (2, .int x2), (3, .int x3), (4, .int x4), (5, .ref oa)]) hx hb dL_open_29 hl (by decide) rfl (fun ls hl => ?_)
      refine lv_iconst (v := 4) hx hb dL_open_31 (by decide) ?_
      exact W.iret hx hb hr (fun t ht9 _ => ⟨⟨_, w1, _, rfl, by rw [ht9]; exact hP, ht, hk⟩, hS.F ht9⟩) hS.2.2 dL_open_32
    refine List.forall_mem_cons.mpr ⟨⟨[⟨0, 14, 17, 21⟩, ⟨0, 14, 21, 13⟩], ⟨0, 14, 25, 23⟩, [⟨0, 14, 29, 15⟩], htab, (by intro z hz; simp only [List.mem_cons, List.not_mem_nil, or_false] at hz; rcases hz with rfl | rfl <;> first | exact Or.inr ⟨by decide, "java/lang/IndexOutOfBoundsException", hts _ (List.mem_cons_of_mem _ (lm_ _ (List.mem_of_getElem? (i := 5) rfl))), hT.2.2.2.2 "java/lang/UnsupportedOperationException" (by decide) "java/lang/IndexOutOfBoundsException" (by decide) (by decide)⟩ | exact Or.inr ⟨by decide, "java/lang/IllegalArgumentException", hts _ (List.mem_cons_of_mem _ (lm_ _ (List.mem_of_getElem? (i := 0) rfl))), hT.2.2.2.2 "java/lang/UnsupportedOperationException" (by decide) "java/lang/IllegalArgumentException" (by decide) (by decide)⟩), by decide, by decide, hts _ (List.mem_cons_of_mem _ (lm_ _ (List.mem_of_getElem? (i := 171) rfl))), va_Nw.use rfl (hT.2.2.1 "java/lang/UnsupportedOperationException" (by decide)), fun qx H locs w1 hP hD hS ht hk => ?_⟩, ?_⟩
    · refine lv_astore (lv' := [(6, .ref qx), (0, .ref x0), (1, .int x1), (2, .int x2), (3, .int x3), (4, .int x4), (5, .ref oa)]) hx hb dL_open_25 hl (by decide) rfl (fun ls hl => ?_)
      refine lv_iconst (v := 3) hx hb dL_open_27 (by decide) ?_
      exact W.iret hx hb hr (fun t ht9 _ => ⟨⟨_, w1, _, rfl, by rw [ht9]; exact hP, ht, hk⟩, hS.F ht9⟩) hS.2.2 dL_open_28
    exact fun q hq => by cases hq
  · intro alt halt H locs w1 v hP hD hS ht hk ha
    obtain ⟨y, rfl⟩ := vw_int (by decide +kernel) halt ha
    refine lv_i2l (v := y.toInt64) hx hb dL_open_12 rfl ?_
    refine va_last hx hb hK hP hD hS 0 2 rfl rfl (by unfold vp_in; decide) dL_open_13 (fun H locs hP hD hS => ?_)
    rw [my_upd0] at hP
    have hP : va_P D vwCl ((oa, .inl (cy 2, 1, .inr (.inl (vp_updL f 0 y.toInt64)))) :: w1) H := hP
    refine lv_goto (tgt := 33) hx hb dL_open_14 (by decide) ?_
    refine lv_iconst (v := 0) hx hb dL_open_33 (by decide) ?_
    exact W.iret hx hb hr (fun t ht9 _ => ⟨⟨_, w1, _, rfl, by rw [ht9]; exact hP, ht, hk⟩, hS.F ht9⟩) hS.2.2 dL_open_34

theorem dL_close_0 : decode cL_close 0 = .ok (.aload_n 2, 1) := by decide +kernel
theorem dL_close_1 : decode cL_close 1 = .ok (.iconst 0, 1) := by decide +kernel
theorem dL_close_2 : decode cL_close 2 = .ok (.aload_n 0, 1) := by decide +kernel
theorem dL_close_3 : decode cL_close 3 = .ok (.iload_n 1, 1) := by decide +kernel
theorem dL_close_4 : decode cL_close 4 = .ok (.invokevirtual 84, 3) := by decide +kernel
theorem dL_close_7 : decode cL_close 7 = .ok (.i2l, 1) := by decide +kernel
theorem dL_close_8 : decode cL_close 8 = .ok (.lastore, 1) := by decide +kernel
theorem dL_close_9 : decode cL_close 9 = .ok (.goto 6, 3) := by decide +kernel
theorem dL_close_12 : decode cL_close 12 = .ok (.astore_n 3, 1) := by decide +kernel
theorem dL_close_13 : decode cL_close 13 = .ok (.iconst 1, 1) := by decide +kernel
theorem dL_close_14 : decode cL_close 14 = .ok (.ireturn, 1) := by decide +kernel
theorem dL_close_15 : decode cL_close 15 = .ok (.iconst 0, 1) := by decide +kernel
theorem dL_close_16 : decode cL_close 16 = .ok (.ireturn, 1) := by decide +kernel
set_option maxRecDepth 100000 in
set_option maxHeartbeats 4000000 in
theorem w_close (l : Launch) (D : va_G) (cy : Nat → ClassId) (hst : l.stackTraces = false) {ad τ : List Nat} {w : va_W} (sz oa : Nat) (f : Nat → Int64) (hs : vi_s1 vSG τ) (ht : vi_tw vK cy (fun _ => True) ad τ w) {x0 q0 : Nat} (hr0 : τ[q0]? = some 0) (hr1 : ad[q0]? = some x0) (x1 : Int32) : vw_M l D cy vK ad τ oa f w sz q_Hubcascade_close_0.2.2.2.1 yL_close (Cond.codeWith yL_close cL_close 4 (some .int) [(0, 9, 12, 56)] :: lWall) 8 1 132 [.ref x0, .int x1, .ref oa] := by
  refine wr_ofW (cc := cL_close) (maxL := 4) (ret := (some .int)) (hh := [(0, 9, 12, 56)]) (lv := [(0, .ref x0), (1, .int x1), (2, .ref oa)]) (by decide) rfl (Nat.le_of_ble_eq_true rfl) rfl ?_
  intro p e s m below meth c ls hx hb hr hml hown hlocks htab hts hv hl
  have hown : s.vm.findClass RL = some m.cls := hown
  obtain ⟨⟨⟨hsz, hP, hD0⟩, hK, hN⟩, hT⟩ := hv
  subst hsz
  have hD := hD0.self (sz := s.heap.size)
  generalize hAe : va_A ((oa, .inl (cy 2, 1, .inr (.inl f))) :: w) s.heap.size = A at hD hT ⊢
  have hA : ∀ q : Nat, s.heap.size ≤ q → A q := fun q h => by rw [← hAe]; exact Or.inr h
  have hS : va_S A s.heap s.heap [] := va_S.rf
  have hP : va_P D vwCl ([(oa, .inl (cy 2, 1, .inr (.inl f)))] ++ w) s.heap := hP
  have hD : va_D A ([(oa, .inl (cy 2, 1, .inr (.inl f)))] ++ w) := hD
  have S : CallFix p m c cL_close 4 s _ (_ :: lWall) RL := ⟨hx, hb, hml, hown, hts⟩
  refine lv_aload_n hx hb dL_close_0 rfl (lv_at hl 2 rfl) ?_
  refine lv_iconst (v := 0) hx hb dL_close_1 (by decide) ?_
  refine lv_aload_n hx hb dL_close_2 rfl (lv_at hl 0 rfl) ?_
  refine lv_iload_n hx hb dL_close_3 rfl (lv_at hl 1 rfl) ?_
  refine vi_catchV (wr := [(oa, .inl (cy 2, 1, .inr (.inl f)))]) (av := [.ref x0, .int x1]) (rest := [.int 0, .ref oa]) S (m_Hubcascade_close_0 l D cy hst) (cwV 1 S.2.2.2.2 (lgV (lm_ _ (List.mem_of_getElem? (i := 93) rfl)) (lm_ _ (List.mem_of_getElem? (i := 94) rfl)) (lm_ _ (List.mem_of_getElem? (i := 95) rfl)) (lv_ _ (vm_4 _ (List.mem_of_getElem? (i := 20) rfl))) (lv_ _ (vm_8 _ (List.mem_of_getElem? (i := 19) rfl)))) rfl rfl rfl ⟨rfl, by decide, by decide, by decide +kernel⟩ ⟨Nat.le_of_ble_eq_true rfl, Nat.le_of_ble_eq_true rfl⟩) rfl ⟨_, _, _, _, _, _, rfl, rfl, rfl, rfl⟩ hK hN hs hT hP hD hS hA ht rfl ?_ (fun f hf => by cases hf) hl.1 rfl (Nat.le_of_ble_eq_true rfl) dL_close_4 ⟨Nat.le_of_ble_eq_true rfl, Nat.le_of_ble_eq_true rfl⟩ ?_ ?_
  · exact vi_tys_ok (ad := ad) (τ := τ) (as := q_Hubcascade_close_0.1) ⟨Or.inr ⟨q0, x0, hr0, hr1, rfl⟩, vi_okI x1, True.intro⟩
  · refine List.forall_mem_cons.mpr ⟨⟨[], ⟨0, 9, 12, 56⟩, [], htab, (fun _ h => absurd h List.not_mem_nil), by decide, by decide, hts _ (List.mem_cons_of_mem _ (lm_ _ (List.mem_of_getElem? (i := 47) rfl))), va_Nw.use rfl (hT.2.2.1 "java/util/NoSuchElementException" (by decide)), fun qx H locs w1 hP hD hS ht hk => ?_⟩, ?_⟩
    · refine lv_astore_n (lv' := [(3, .ref qx), (0, .ref x0), (1, .int x1), (2, .ref oa)]) hx hb dL_close_12 rfl hl (by decide) rfl (fun ls hl => ?_)
      refine lv_iconst (v := 1) hx hb dL_close_13 (by decide) ?_
      exact W.iret hx hb hr (fun t ht9 _ => ⟨⟨_, w1, _, rfl, by rw [ht9]; exact hP, ht, hk⟩, hS.F ht9⟩) hS.2.2 dL_close_14
    exact fun q hq => by cases hq
  · intro alt halt H locs w1 v hP hD hS ht hk ha
    obtain ⟨y, rfl⟩ := vw_int (by decide +kernel) halt ha
    refine lv_i2l (v := y.toInt64) hx hb dL_close_7 rfl ?_
    refine va_last hx hb hK hP hD hS 0 2 rfl rfl (by unfold vp_in; decide) dL_close_8 (fun H locs hP hD hS => ?_)
    rw [my_upd0] at hP
    have hP : va_P D vwCl ((oa, .inl (cy 2, 1, .inr (.inl (vp_updL f 0 y.toInt64)))) :: w1) H := hP
    refine lv_goto (tgt := 15) hx hb dL_close_9 (by decide) ?_
    refine lv_iconst (v := 0) hx hb dL_close_15 (by decide) ?_
    exact W.iret hx hb hr (fun t ht9 _ => ⟨⟨_, w1, _, rfl, by rw [ht9]; exact hP, ht, hk⟩, hS.F ht9⟩) hS.2.2 dL_close_16

theorem dL_phaseOf_0 : decode cL_phaseOf 0 = .ok (.aload_n 2, 1) := by decide +kernel
theorem dL_phaseOf_1 : decode cL_phaseOf 1 = .ok (.iconst 0, 1) := by decide +kernel
theorem dL_phaseOf_2 : decode cL_phaseOf 2 = .ok (.aload_n 0, 1) := by decide +kernel
theorem dL_phaseOf_3 : decode cL_phaseOf 3 = .ok (.iload_n 1, 1) := by decide +kernel
theorem dL_phaseOf_4 : decode cL_phaseOf 4 = .ok (.invokevirtual 87, 3) := by decide +kernel
theorem dL_phaseOf_7 : decode cL_phaseOf 7 = .ok (.i2l, 1) := by decide +kernel
theorem dL_phaseOf_8 : decode cL_phaseOf 8 = .ok (.lastore, 1) := by decide +kernel
theorem dL_phaseOf_9 : decode cL_phaseOf 9 = .ok (.goto 6, 3) := by decide +kernel
theorem dL_phaseOf_12 : decode cL_phaseOf 12 = .ok (.astore_n 3, 1) := by decide +kernel
theorem dL_phaseOf_13 : decode cL_phaseOf 13 = .ok (.iconst 1, 1) := by decide +kernel
theorem dL_phaseOf_14 : decode cL_phaseOf 14 = .ok (.ireturn, 1) := by decide +kernel
theorem dL_phaseOf_15 : decode cL_phaseOf 15 = .ok (.iconst 0, 1) := by decide +kernel
theorem dL_phaseOf_16 : decode cL_phaseOf 16 = .ok (.ireturn, 1) := by decide +kernel
set_option maxRecDepth 100000 in
set_option maxHeartbeats 4000000 in
theorem w_phaseOf (l : Launch) (D : va_G) (cy : Nat → ClassId) (hst : l.stackTraces = false) {ad τ : List Nat} {w : va_W} (sz oa : Nat) (f : Nat → Int64) (hs : vi_s1 vSG τ) (ht : vi_tw vK cy (fun _ => True) ad τ w) {x0 q0 : Nat} (hr0 : τ[q0]? = some 0) (hr1 : ad[q0]? = some x0) (x1 : Int32) : vw_M l D cy vK ad τ oa f w sz q_Hubcascade_phaseOf_0.2.2.2.1 yL_phaseOf (Cond.codeWith yL_phaseOf cL_phaseOf 4 (some .int) [(0, 9, 12, 56)] :: lWall) 8 1 132 [.ref x0, .int x1, .ref oa] := by
  refine wr_ofW (cc := cL_phaseOf) (maxL := 4) (ret := (some .int)) (hh := [(0, 9, 12, 56)]) (lv := [(0, .ref x0), (1, .int x1), (2, .ref oa)]) (by decide) rfl (Nat.le_of_ble_eq_true rfl) rfl ?_
  intro p e s m below meth c ls hx hb hr hml hown hlocks htab hts hv hl
  have hown : s.vm.findClass RL = some m.cls := hown
  obtain ⟨⟨⟨hsz, hP, hD0⟩, hK, hN⟩, hT⟩ := hv
  subst hsz
  have hD := hD0.self (sz := s.heap.size)
  generalize hAe : va_A ((oa, .inl (cy 2, 1, .inr (.inl f))) :: w) s.heap.size = A at hD hT ⊢
  have hA : ∀ q : Nat, s.heap.size ≤ q → A q := fun q h => by rw [← hAe]; exact Or.inr h
  have hS : va_S A s.heap s.heap [] := va_S.rf
  have hP : va_P D vwCl ([(oa, .inl (cy 2, 1, .inr (.inl f)))] ++ w) s.heap := hP
  have hD : va_D A ([(oa, .inl (cy 2, 1, .inr (.inl f)))] ++ w) := hD
  have S : CallFix p m c cL_phaseOf 4 s _ (_ :: lWall) RL := ⟨hx, hb, hml, hown, hts⟩
  refine lv_aload_n hx hb dL_phaseOf_0 rfl (lv_at hl 2 rfl) ?_
  refine lv_iconst (v := 0) hx hb dL_phaseOf_1 (by decide) ?_
  refine lv_aload_n hx hb dL_phaseOf_2 rfl (lv_at hl 0 rfl) ?_
  refine lv_iload_n hx hb dL_phaseOf_3 rfl (lv_at hl 1 rfl) ?_
  refine vi_catchV (wr := [(oa, .inl (cy 2, 1, .inr (.inl f)))]) (av := [.ref x0, .int x1]) (rest := [.int 0, .ref oa]) S (m_Hubcascade_phaseOf_0 l D cy hst) (cwV 1 S.2.2.2.2 (lgV (lm_ _ (List.mem_of_getElem? (i := 98) rfl)) (lm_ _ (List.mem_of_getElem? (i := 99) rfl)) (lm_ _ (List.mem_of_getElem? (i := 100) rfl)) (lv_ _ (vm_4 _ (List.mem_of_getElem? (i := 20) rfl))) (lv_ _ (vm_8 _ (List.mem_of_getElem? (i := 20) rfl)))) rfl rfl rfl ⟨rfl, by decide, by decide, by decide +kernel⟩ ⟨Nat.le_of_ble_eq_true rfl, Nat.le_of_ble_eq_true rfl⟩) rfl ⟨_, _, _, _, _, _, rfl, rfl, rfl, rfl⟩ hK hN hs hT hP hD hS hA ht rfl ?_ (fun f hf => by cases hf) hl.1 rfl (Nat.le_of_ble_eq_true rfl) dL_phaseOf_4 ⟨Nat.le_of_ble_eq_true rfl, Nat.le_of_ble_eq_true rfl⟩ ?_ ?_
  · exact vi_tys_ok (ad := ad) (τ := τ) (as := q_Hubcascade_phaseOf_0.1) ⟨Or.inr ⟨q0, x0, hr0, hr1, rfl⟩, vi_okI x1, True.intro⟩
  · refine List.forall_mem_cons.mpr ⟨⟨[], ⟨0, 9, 12, 56⟩, [], htab, (fun _ h => absurd h List.not_mem_nil), by decide, by decide, hts _ (List.mem_cons_of_mem _ (lm_ _ (List.mem_of_getElem? (i := 47) rfl))), va_Nw.use rfl (hT.2.2.1 "java/util/NoSuchElementException" (by decide)), fun qx H locs w1 hP hD hS ht hk => ?_⟩, ?_⟩
    · refine lv_astore_n (lv' := [(3, .ref qx), (0, .ref x0), (1, .int x1), (2, .ref oa)]) hx hb dL_phaseOf_12 rfl hl (by decide) rfl (fun ls hl => ?_)
      refine lv_iconst (v := 1) hx hb dL_phaseOf_13 (by decide) ?_
      exact W.iret hx hb hr (fun t ht9 _ => ⟨⟨_, w1, _, rfl, by rw [ht9]; exact hP, ht, hk⟩, hS.F ht9⟩) hS.2.2 dL_phaseOf_14
    exact fun q hq => by cases hq
  · intro alt halt H locs w1 v hP hD hS ht hk ha
    obtain ⟨y, rfl⟩ := vw_int (by decide +kernel) halt ha
    refine lv_i2l (v := y.toInt64) hx hb dL_phaseOf_7 rfl ?_
    refine va_last hx hb hK hP hD hS 0 2 rfl rfl (by unfold vp_in; decide) dL_phaseOf_8 (fun H locs hP hD hS => ?_)
    rw [my_upd0] at hP
    have hP : va_P D vwCl ((oa, .inl (cy 2, 1, .inr (.inl (vp_updL f 0 y.toInt64)))) :: w1) H := hP
    refine lv_goto (tgt := 15) hx hb dL_phaseOf_9 (by decide) ?_
    refine lv_iconst (v := 0) hx hb dL_phaseOf_15 (by decide) ?_
    exact W.iret hx hb hr (fun t ht9 _ => ⟨⟨_, w1, _, rfl, by rw [ht9]; exact hP, ht, hk⟩, hS.F ht9⟩) hS.2.2 dL_phaseOf_16

theorem dL_reserved_0 : decode cL_reserved 0 = .ok (.aload_n 3, 1) := by decide +kernel
theorem dL_reserved_1 : decode cL_reserved 1 = .ok (.iconst 0, 1) := by decide +kernel
theorem dL_reserved_2 : decode cL_reserved 2 = .ok (.aload_n 0, 1) := by decide +kernel
theorem dL_reserved_3 : decode cL_reserved 3 = .ok (.iload_n 1, 1) := by decide +kernel
theorem dL_reserved_4 : decode cL_reserved 4 = .ok (.iload_n 2, 1) := by decide +kernel
theorem dL_reserved_5 : decode cL_reserved 5 = .ok (.invokevirtual 90, 3) := by decide +kernel
theorem dL_reserved_8 : decode cL_reserved 8 = .ok (.i2l, 1) := by decide +kernel
theorem dL_reserved_9 : decode cL_reserved 9 = .ok (.lastore, 1) := by decide +kernel
theorem dL_reserved_10 : decode cL_reserved 10 = .ok (.goto 11, 3) := by decide +kernel
theorem dL_reserved_13 : decode cL_reserved 13 = .ok (.astore 4, 2) := by decide +kernel
theorem dL_reserved_15 : decode cL_reserved 15 = .ok (.iconst 1, 1) := by decide +kernel
theorem dL_reserved_16 : decode cL_reserved 16 = .ok (.ireturn, 1) := by decide +kernel
theorem dL_reserved_17 : decode cL_reserved 17 = .ok (.astore 4, 2) := by decide +kernel
theorem dL_reserved_19 : decode cL_reserved 19 = .ok (.iconst 2, 1) := by decide +kernel
theorem dL_reserved_20 : decode cL_reserved 20 = .ok (.ireturn, 1) := by decide +kernel
theorem dL_reserved_21 : decode cL_reserved 21 = .ok (.iconst 0, 1) := by decide +kernel
theorem dL_reserved_22 : decode cL_reserved 22 = .ok (.ireturn, 1) := by decide +kernel
set_option maxRecDepth 100000 in
set_option maxHeartbeats 4000000 in
theorem w_reserved (l : Launch) (D : va_G) (cy : Nat → ClassId) (hst : l.stackTraces = false) {ad τ : List Nat} {w : va_W} (sz oa : Nat) (f : Nat → Int64) (hs : vi_s1 vSG τ) (ht : vi_tw vK cy (fun _ => True) ad τ w) {x0 q0 : Nat} (hr0 : τ[q0]? = some 0) (hr1 : ad[q0]? = some x0) (x1 : Int32) (x2 : Int32) : vw_M l D cy vK ad τ oa f w sz q_Hubcascade_reserved_0.2.2.2.1 yL_reserved (Cond.codeWith yL_reserved cL_reserved 5 (some .int) [(0, 10, 13, 13), (0, 10, 17, 21)] :: lWall) 8 1 133 [.ref x0, .int x1, .int x2, .ref oa] := by
  refine wr_ofW (cc := cL_reserved) (maxL := 5) (ret := (some .int)) (hh := [(0, 10, 13, 13), (0, 10, 17, 21)]) (lv := [(0, .ref x0), (1, .int x1), (2, .int x2), (3, .ref oa)]) (by decide) rfl (Nat.le_of_ble_eq_true rfl) rfl ?_
  intro p e s m below meth c ls hx hb hr hml hown hlocks htab hts hv hl
  have hown : s.vm.findClass RL = some m.cls := hown
  obtain ⟨⟨⟨hsz, hP, hD0⟩, hK, hN⟩, hT⟩ := hv
  subst hsz
  have hD := hD0.self (sz := s.heap.size)
  generalize hAe : va_A ((oa, .inl (cy 2, 1, .inr (.inl f))) :: w) s.heap.size = A at hD hT ⊢
  have hA : ∀ q : Nat, s.heap.size ≤ q → A q := fun q h => by rw [← hAe]; exact Or.inr h
  have hS : va_S A s.heap s.heap [] := va_S.rf
  have hP : va_P D vwCl ([(oa, .inl (cy 2, 1, .inr (.inl f)))] ++ w) s.heap := hP
  have hD : va_D A ([(oa, .inl (cy 2, 1, .inr (.inl f)))] ++ w) := hD
  have S : CallFix p m c cL_reserved 5 s _ (_ :: lWall) RL := ⟨hx, hb, hml, hown, hts⟩
  refine lv_aload_n hx hb dL_reserved_0 rfl (lv_at hl 3 rfl) ?_
  refine lv_iconst (v := 0) hx hb dL_reserved_1 (by decide) ?_
  refine lv_aload_n hx hb dL_reserved_2 rfl (lv_at hl 0 rfl) ?_
  refine lv_iload_n hx hb dL_reserved_3 rfl (lv_at hl 1 rfl) ?_
  refine lv_iload_n hx hb dL_reserved_4 rfl (lv_at hl 2 rfl) ?_
  refine vi_catchV (wr := [(oa, .inl (cy 2, 1, .inr (.inl f)))]) (av := [.ref x0, .int x1, .int x2]) (rest := [.int 0, .ref oa]) S (m_Hubcascade_reserved_0 l D cy hst) (cwV 2 S.2.2.2.2 (lgV (lm_ _ (List.mem_of_getElem? (i := 101) rfl)) (lm_ _ (List.mem_of_getElem? (i := 102) rfl)) (lm_ _ (List.mem_of_getElem? (i := 103) rfl)) (lv_ _ (vm_4 _ (List.mem_of_getElem? (i := 20) rfl))) (lv_ _ (vm_8 _ (List.mem_of_getElem? (i := 21) rfl)))) rfl rfl rfl ⟨rfl, by decide, by decide, by decide +kernel⟩ ⟨Nat.le_of_ble_eq_true rfl, Nat.le_of_ble_eq_true rfl⟩) rfl ⟨_, _, _, _, _, _, rfl, rfl, rfl, rfl⟩ hK hN hs hT hP hD hS hA ht rfl ?_ (fun f hf => by cases hf) hl.1 rfl (Nat.le_of_ble_eq_true rfl) dL_reserved_5 ⟨Nat.le_of_ble_eq_true rfl, Nat.le_of_ble_eq_true rfl⟩ ?_ ?_
  · exact vi_tys_ok (ad := ad) (τ := τ) (as := q_Hubcascade_reserved_0.1) ⟨Or.inr ⟨q0, x0, hr0, hr1, rfl⟩, vi_okI x1, vi_okI x2, True.intro⟩
  · refine List.forall_mem_cons.mpr ⟨⟨[⟨0, 10, 13, 13⟩], ⟨0, 10, 17, 21⟩, [], htab, (by intro z hz; simp only [List.mem_cons, List.not_mem_nil, or_false] at hz; subst hz; exact Or.inr ⟨by decide, "java/lang/IllegalArgumentException", hts _ (List.mem_cons_of_mem _ (lm_ _ (List.mem_of_getElem? (i := 0) rfl))), hT.2.2.2.2 "java/lang/IndexOutOfBoundsException" (by decide) "java/lang/IllegalArgumentException" (by decide) (by decide)⟩), by decide, by decide, hts _ (List.mem_cons_of_mem _ (lm_ _ (List.mem_of_getElem? (i := 5) rfl))), va_Nw.use rfl (hT.2.2.1 "java/lang/IndexOutOfBoundsException" (by decide)), fun qx H locs w1 hP hD hS ht hk => ?_⟩, ?_⟩
    · refine lv_astore (lv' := [(4, .ref qx), (0, .ref x0), (1, .int x1), (2, .int x2), (3, .ref oa)]) hx hb dL_reserved_17 hl (by decide) rfl (fun ls hl => ?_)
      refine lv_iconst (v := 2) hx hb dL_reserved_19 (by decide) ?_
      exact W.iret hx hb hr (fun t ht9 _ => ⟨⟨_, w1, _, rfl, by rw [ht9]; exact hP, ht, hk⟩, hS.F ht9⟩) hS.2.2 dL_reserved_20
    refine List.forall_mem_cons.mpr ⟨⟨[], ⟨0, 10, 13, 13⟩, [⟨0, 10, 17, 21⟩], htab, (fun _ h => absurd h List.not_mem_nil), by decide, by decide, hts _ (List.mem_cons_of_mem _ (lm_ _ (List.mem_of_getElem? (i := 0) rfl))), va_Nw.use rfl (hT.2.2.1 "java/lang/IllegalArgumentException" (by decide)), fun qx H locs w1 hP hD hS ht hk => ?_⟩, ?_⟩
    · refine lv_astore (lv' := [(4, .ref qx), (0, .ref x0), (1, .int x1), (2, .int x2), (3, .ref oa)]) hx hb dL_reserved_13 hl (by decide) rfl (fun ls hl => ?_)
      refine lv_iconst (v := 1) hx hb dL_reserved_15 (by decide) ?_
      exact W.iret hx hb hr (fun t ht9 _ => ⟨⟨_, w1, _, rfl, by rw [ht9]; exact hP, ht, hk⟩, hS.F ht9⟩) hS.2.2 dL_reserved_16
    exact fun q hq => by cases hq
  · intro alt halt H locs w1 v hP hD hS ht hk ha
    obtain ⟨y, rfl⟩ := vw_int (by decide +kernel) halt ha
    refine lv_i2l (v := y.toInt64) hx hb dL_reserved_8 rfl ?_
    refine va_last hx hb hK hP hD hS 0 2 rfl rfl (by unfold vp_in; decide) dL_reserved_9 (fun H locs hP hD hS => ?_)
    rw [my_upd0] at hP
    have hP : va_P D vwCl ((oa, .inl (cy 2, 1, .inr (.inl (vp_updL f 0 y.toInt64)))) :: w1) H := hP
    refine lv_goto (tgt := 21) hx hb dL_reserved_10 (by decide) ?_
    refine lv_iconst (v := 0) hx hb dL_reserved_21 (by decide) ?_
    exact W.iret hx hb hr (fun t ht9 _ => ⟨⟨_, w1, _, rfl, by rw [ht9]; exact hP, ht, hk⟩, hS.F ht9⟩) hS.2.2 dL_reserved_22

theorem dL_send_0 : decode cL_send 0 = .ok (.aload_n 2, 1) := by decide +kernel
theorem dL_send_1 : decode cL_send 1 = .ok (.iconst 0, 1) := by decide +kernel
theorem dL_send_2 : decode cL_send 2 = .ok (.aload_n 0, 1) := by decide +kernel
theorem dL_send_3 : decode cL_send 3 = .ok (.iload_n 1, 1) := by decide +kernel
theorem dL_send_4 : decode cL_send 4 = .ok (.invokevirtual 93, 3) := by decide +kernel
theorem dL_send_7 : decode cL_send 7 = .ok (.i2l, 1) := by decide +kernel
theorem dL_send_8 : decode cL_send 8 = .ok (.lastore, 1) := by decide +kernel
theorem dL_send_9 : decode cL_send 9 = .ok (.goto 12, 3) := by decide +kernel
theorem dL_send_12 : decode cL_send 12 = .ok (.astore_n 3, 1) := by decide +kernel
theorem dL_send_13 : decode cL_send 13 = .ok (.iconst 1, 1) := by decide +kernel
theorem dL_send_14 : decode cL_send 14 = .ok (.ireturn, 1) := by decide +kernel
theorem dL_send_15 : decode cL_send 15 = .ok (.astore_n 3, 1) := by decide +kernel
theorem dL_send_16 : decode cL_send 16 = .ok (.iconst 2, 1) := by decide +kernel
theorem dL_send_17 : decode cL_send 17 = .ok (.ireturn, 1) := by decide +kernel
theorem dL_send_18 : decode cL_send 18 = .ok (.astore_n 3, 1) := by decide +kernel
theorem dL_send_19 : decode cL_send 19 = .ok (.iconst 3, 1) := by decide +kernel
theorem dL_send_20 : decode cL_send 20 = .ok (.ireturn, 1) := by decide +kernel
theorem dL_send_21 : decode cL_send 21 = .ok (.iconst 0, 1) := by decide +kernel
theorem dL_send_22 : decode cL_send 22 = .ok (.ireturn, 1) := by decide +kernel
set_option maxRecDepth 100000 in
set_option maxHeartbeats 4000000 in
theorem w_send (l : Launch) (D : va_G) (cy : Nat → ClassId) (hst : l.stackTraces = false) {ad τ : List Nat} {w : va_W} (sz oa : Nat) (f : Nat → Int64) (hs : vi_s1 vSG τ) (ht : vi_tw vK cy (fun _ => True) ad τ w) {x0 q0 : Nat} (hr0 : τ[q0]? = some 0) (hr1 : ad[q0]? = some x0) (x1 : Int32) : vw_M l D cy vK ad τ oa f w sz q_Hubcascade_send_0.2.2.2.1 yL_send (Cond.codeWith yL_send cL_send 4 (some .int) [(0, 9, 12, 56), (0, 9, 15, 23), (0, 9, 18, 15)] :: lWall) 8 2 136 [.ref x0, .int x1, .ref oa] := by
  refine wr_ofW (cc := cL_send) (maxL := 4) (ret := (some .int)) (hh := [(0, 9, 12, 56), (0, 9, 15, 23), (0, 9, 18, 15)]) (lv := [(0, .ref x0), (1, .int x1), (2, .ref oa)]) (by decide) rfl (Nat.le_of_ble_eq_true rfl) rfl ?_
  intro p e s m below meth c ls hx hb hr hml hown hlocks htab hts hv hl
  have hown : s.vm.findClass RL = some m.cls := hown
  obtain ⟨⟨⟨hsz, hP, hD0⟩, hK, hN⟩, hT⟩ := hv
  subst hsz
  have hD := hD0.self (sz := s.heap.size)
  generalize hAe : va_A ((oa, .inl (cy 2, 1, .inr (.inl f))) :: w) s.heap.size = A at hD hT ⊢
  have hA : ∀ q : Nat, s.heap.size ≤ q → A q := fun q h => by rw [← hAe]; exact Or.inr h
  have hS : va_S A s.heap s.heap [] := va_S.rf
  have hP : va_P D vwCl ([(oa, .inl (cy 2, 1, .inr (.inl f)))] ++ w) s.heap := hP
  have hD : va_D A ([(oa, .inl (cy 2, 1, .inr (.inl f)))] ++ w) := hD
  have S : CallFix p m c cL_send 4 s _ (_ :: lWall) RL := ⟨hx, hb, hml, hown, hts⟩
  refine lv_aload_n hx hb dL_send_0 rfl (lv_at hl 2 rfl) ?_
  refine lv_iconst (v := 0) hx hb dL_send_1 (by decide) ?_
  refine lv_aload_n hx hb dL_send_2 rfl (lv_at hl 0 rfl) ?_
  refine lv_iload_n hx hb dL_send_3 rfl (lv_at hl 1 rfl) ?_
  refine vi_catchV (wr := [(oa, .inl (cy 2, 1, .inr (.inl f)))]) (av := [.ref x0, .int x1]) (rest := [.int 0, .ref oa]) S (m_Hubcascade_send_0 l D cy hst) (cwV 1 S.2.2.2.2 (lgV (lm_ _ (List.mem_of_getElem? (i := 104) rfl)) (lm_ _ (List.mem_of_getElem? (i := 105) rfl)) (lm_ _ (List.mem_of_getElem? (i := 106) rfl)) (lv_ _ (vm_4 _ (List.mem_of_getElem? (i := 20) rfl))) (lv_ _ (vm_8 _ (List.mem_of_getElem? (i := 24) rfl)))) rfl rfl rfl ⟨rfl, by decide, by decide, by decide +kernel⟩ ⟨Nat.le_of_ble_eq_true rfl, Nat.le_of_ble_eq_true rfl⟩) rfl ⟨_, _, _, _, _, _, rfl, rfl, rfl, rfl⟩ hK hN hs hT hP hD hS hA ht rfl ?_ (fun f hf => by cases hf) hl.1 rfl (Nat.le_of_ble_eq_true rfl) dL_send_4 ⟨Nat.le_of_ble_eq_true rfl, Nat.le_of_ble_eq_true rfl⟩ ?_ ?_
  · exact vi_tys_ok (ad := ad) (τ := τ) (as := q_Hubcascade_send_0.1) ⟨Or.inr ⟨q0, x0, hr0, hr1, rfl⟩, vi_okI x1, True.intro⟩
  · refine List.forall_mem_cons.mpr ⟨⟨[⟨0, 9, 12, 56⟩, ⟨0, 9, 15, 23⟩], ⟨0, 9, 18, 15⟩, [], htab, (by intro z hz; simp only [List.mem_cons, List.not_mem_nil, or_false] at hz; rcases hz with rfl | rfl <;> first | exact Or.inr ⟨by decide, "java/util/NoSuchElementException", hts _ (List.mem_cons_of_mem _ (lm_ _ (List.mem_of_getElem? (i := 47) rfl))), hT.2.2.2.2 "java/lang/IllegalStateException" (by decide) "java/util/NoSuchElementException" (by decide) (by decide)⟩ | exact Or.inr ⟨by decide, "java/lang/UnsupportedOperationException", hts _ (List.mem_cons_of_mem _ (lm_ _ (List.mem_of_getElem? (i := 171) rfl))), hT.2.2.2.2 "java/lang/IllegalStateException" (by decide) "java/lang/UnsupportedOperationException" (by decide) (by decide)⟩), by decide, by decide, hts _ (List.mem_cons_of_mem _ (lm_ _ (List.mem_of_getElem? (i := 170) rfl))), va_Nw.use rfl (hT.2.2.1 "java/lang/IllegalStateException" (by decide)), fun qx H locs w1 hP hD hS ht hk => ?_⟩, ?_⟩
    · refine lv_astore_n (lv' := [(3, .ref qx), (0, .ref x0), (1, .int x1), (2, .ref oa)]) hx hb dL_send_18 rfl hl (by decide) rfl (fun ls hl => ?_)
      refine lv_iconst (v := 3) hx hb dL_send_19 (by decide) ?_
      exact W.iret hx hb hr (fun t ht9 _ => ⟨⟨_, w1, _, rfl, by rw [ht9]; exact hP, ht, hk⟩, hS.F ht9⟩) hS.2.2 dL_send_20
    refine List.forall_mem_cons.mpr ⟨⟨[⟨0, 9, 12, 56⟩], ⟨0, 9, 15, 23⟩, [⟨0, 9, 18, 15⟩], htab, (by intro z hz; simp only [List.mem_cons, List.not_mem_nil, or_false] at hz; subst hz; exact Or.inr ⟨by decide, "java/util/NoSuchElementException", hts _ (List.mem_cons_of_mem _ (lm_ _ (List.mem_of_getElem? (i := 47) rfl))), hT.2.2.2.2 "java/lang/UnsupportedOperationException" (by decide) "java/util/NoSuchElementException" (by decide) (by decide)⟩), by decide, by decide, hts _ (List.mem_cons_of_mem _ (lm_ _ (List.mem_of_getElem? (i := 171) rfl))), va_Nw.use rfl (hT.2.2.1 "java/lang/UnsupportedOperationException" (by decide)), fun qx H locs w1 hP hD hS ht hk => ?_⟩, ?_⟩
    · refine lv_astore_n (lv' := [(3, .ref qx), (0, .ref x0), (1, .int x1), (2, .ref oa)]) hx hb dL_send_15 rfl hl (by decide) rfl (fun ls hl => ?_)
      refine lv_iconst (v := 2) hx hb dL_send_16 (by decide) ?_
      exact W.iret hx hb hr (fun t ht9 _ => ⟨⟨_, w1, _, rfl, by rw [ht9]; exact hP, ht, hk⟩, hS.F ht9⟩) hS.2.2 dL_send_17
    refine List.forall_mem_cons.mpr ⟨⟨[], ⟨0, 9, 12, 56⟩, [⟨0, 9, 15, 23⟩, ⟨0, 9, 18, 15⟩], htab, (fun _ h => absurd h List.not_mem_nil), by decide, by decide, hts _ (List.mem_cons_of_mem _ (lm_ _ (List.mem_of_getElem? (i := 47) rfl))), va_Nw.use rfl (hT.2.2.1 "java/util/NoSuchElementException" (by decide)), fun qx H locs w1 hP hD hS ht hk => ?_⟩, ?_⟩
    · refine lv_astore_n (lv' := [(3, .ref qx), (0, .ref x0), (1, .int x1), (2, .ref oa)]) hx hb dL_send_12 rfl hl (by decide) rfl (fun ls hl => ?_)
      refine lv_iconst (v := 1) hx hb dL_send_13 (by decide) ?_
      exact W.iret hx hb hr (fun t ht9 _ => ⟨⟨_, w1, _, rfl, by rw [ht9]; exact hP, ht, hk⟩, hS.F ht9⟩) hS.2.2 dL_send_14
    exact fun q hq => by cases hq
  · intro alt halt H locs w1 v hP hD hS ht hk ha
    obtain ⟨y, rfl⟩ := vw_int (by decide +kernel) halt ha
    refine lv_i2l (v := y.toInt64) hx hb dL_send_7 rfl ?_
    refine va_last hx hb hK hP hD hS 0 2 rfl rfl (by unfold vp_in; decide) dL_send_8 (fun H locs hP hD hS => ?_)
    rw [my_upd0] at hP
    have hP : va_P D vwCl ((oa, .inl (cy 2, 1, .inr (.inl (vp_updL f 0 y.toInt64)))) :: w1) H := hP
    refine lv_goto (tgt := 21) hx hb dL_send_9 (by decide) ?_
    refine lv_iconst (v := 0) hx hb dL_send_21 (by decide) ?_
    exact W.iret hx hb hr (fun t ht9 _ => ⟨⟨_, w1, _, rfl, by rw [ht9]; exact hP, ht, hk⟩, hS.F ht9⟩) hS.2.2 dL_send_22

theorem dL_ask_0 : decode cL_ask 0 = .ok (.aload_n 3, 1) := by decide +kernel
theorem dL_ask_1 : decode cL_ask 1 = .ok (.iconst 0, 1) := by decide +kernel
theorem dL_ask_2 : decode cL_ask 2 = .ok (.aload_n 0, 1) := by decide +kernel
theorem dL_ask_3 : decode cL_ask 3 = .ok (.iload_n 1, 1) := by decide +kernel
theorem dL_ask_4 : decode cL_ask 4 = .ok (.iload_n 2, 1) := by decide +kernel
theorem dL_ask_5 : decode cL_ask 5 = .ok (.invokevirtual 96, 3) := by decide +kernel
theorem dL_ask_8 : decode cL_ask 8 = .ok (.i2l, 1) := by decide +kernel
theorem dL_ask_9 : decode cL_ask 9 = .ok (.lastore, 1) := by decide +kernel
theorem dL_ask_10 : decode cL_ask 10 = .ok (.goto 19, 3) := by decide +kernel
theorem dL_ask_13 : decode cL_ask 13 = .ok (.astore 4, 2) := by decide +kernel
theorem dL_ask_15 : decode cL_ask 15 = .ok (.iconst 1, 1) := by decide +kernel
theorem dL_ask_16 : decode cL_ask 16 = .ok (.ireturn, 1) := by decide +kernel
theorem dL_ask_17 : decode cL_ask 17 = .ok (.astore 4, 2) := by decide +kernel
theorem dL_ask_19 : decode cL_ask 19 = .ok (.iconst 2, 1) := by decide +kernel
theorem dL_ask_20 : decode cL_ask 20 = .ok (.ireturn, 1) := by decide +kernel
theorem dL_ask_21 : decode cL_ask 21 = .ok (.astore 4, 2) := by decide +kernel
theorem dL_ask_23 : decode cL_ask 23 = .ok (.iconst 3, 1) := by decide +kernel
theorem dL_ask_24 : decode cL_ask 24 = .ok (.ireturn, 1) := by decide +kernel
theorem dL_ask_25 : decode cL_ask 25 = .ok (.astore 4, 2) := by decide +kernel
theorem dL_ask_27 : decode cL_ask 27 = .ok (.iconst 4, 1) := by decide +kernel
theorem dL_ask_28 : decode cL_ask 28 = .ok (.ireturn, 1) := by decide +kernel
theorem dL_ask_29 : decode cL_ask 29 = .ok (.iconst 0, 1) := by decide +kernel
theorem dL_ask_30 : decode cL_ask 30 = .ok (.ireturn, 1) := by decide +kernel
set_option maxRecDepth 100000 in
set_option maxHeartbeats 4000000 in
theorem w_ask (l : Launch) (D : va_G) (cy : Nat → ClassId) (hst : l.stackTraces = false) {ad τ : List Nat} {w : va_W} (sz oa : Nat) (f : Nat → Int64) (hs : vi_s1 vSG τ) (ht : vi_tw vK cy (fun _ => True) ad τ w) {x0 q0 : Nat} (hr0 : τ[q0]? = some 0) (hr1 : ad[q0]? = some x0) (x1 : Int32) (x2 : Int32) : vw_M l D cy vK ad τ oa f w sz q_Hubcascade_ask_0.2.2.2.1 yL_ask (Cond.codeWith yL_ask cL_ask 5 (some .int) [(0, 10, 13, 56), (0, 10, 17, 13), (0, 10, 21, 23), (0, 10, 25, 15)] :: lWall) 8 2 135 [.ref x0, .int x1, .int x2, .ref oa] := by
  refine wr_ofW (cc := cL_ask) (maxL := 5) (ret := (some .int)) (hh := [(0, 10, 13, 56), (0, 10, 17, 13), (0, 10, 21, 23), (0, 10, 25, 15)]) (lv := [(0, .ref x0), (1, .int x1), (2, .int x2), (3, .ref oa)]) (by decide) rfl (Nat.le_of_ble_eq_true rfl) rfl ?_
  intro p e s m below meth c ls hx hb hr hml hown hlocks htab hts hv hl
  have hown : s.vm.findClass RL = some m.cls := hown
  obtain ⟨⟨⟨hsz, hP, hD0⟩, hK, hN⟩, hT⟩ := hv
  subst hsz
  have hD := hD0.self (sz := s.heap.size)
  generalize hAe : va_A ((oa, .inl (cy 2, 1, .inr (.inl f))) :: w) s.heap.size = A at hD hT ⊢
  have hA : ∀ q : Nat, s.heap.size ≤ q → A q := fun q h => by rw [← hAe]; exact Or.inr h
  have hS : va_S A s.heap s.heap [] := va_S.rf
  have hP : va_P D vwCl ([(oa, .inl (cy 2, 1, .inr (.inl f)))] ++ w) s.heap := hP
  have hD : va_D A ([(oa, .inl (cy 2, 1, .inr (.inl f)))] ++ w) := hD
  have S : CallFix p m c cL_ask 5 s _ (_ :: lWall) RL := ⟨hx, hb, hml, hown, hts⟩
  refine lv_aload_n hx hb dL_ask_0 rfl (lv_at hl 3 rfl) ?_
  refine lv_iconst (v := 0) hx hb dL_ask_1 (by decide) ?_
  refine lv_aload_n hx hb dL_ask_2 rfl (lv_at hl 0 rfl) ?_
  refine lv_iload_n hx hb dL_ask_3 rfl (lv_at hl 1 rfl) ?_
  refine lv_iload_n hx hb dL_ask_4 rfl (lv_at hl 2 rfl) ?_
  refine vi_catchV (wr := [(oa, .inl (cy 2, 1, .inr (.inl f)))]) (av := [.ref x0, .int x1, .int x2]) (rest := [.int 0, .ref oa]) S (m_Hubcascade_ask_0 l D cy hst) (cwV 2 S.2.2.2.2 (lgV (lm_ _ (List.mem_of_getElem? (i := 107) rfl)) (lm_ _ (List.mem_of_getElem? (i := 108) rfl)) (lm_ _ (List.mem_of_getElem? (i := 109) rfl)) (lv_ _ (vm_4 _ (List.mem_of_getElem? (i := 20) rfl))) (lv_ _ (vm_8 _ (List.mem_of_getElem? (i := 25) rfl)))) rfl rfl rfl ⟨rfl, by decide, by decide, by decide +kernel⟩ ⟨Nat.le_of_ble_eq_true rfl, Nat.le_of_ble_eq_true rfl⟩) rfl ⟨_, _, _, _, _, _, rfl, rfl, rfl, rfl⟩ hK hN hs hT hP hD hS hA ht rfl ?_ (fun f hf => by cases hf) hl.1 rfl (Nat.le_of_ble_eq_true rfl) dL_ask_5 ⟨Nat.le_of_ble_eq_true rfl, Nat.le_of_ble_eq_true rfl⟩ ?_ ?_
  · exact vi_tys_ok (ad := ad) (τ := τ) (as := q_Hubcascade_ask_0.1) ⟨Or.inr ⟨q0, x0, hr0, hr1, rfl⟩, vi_okI x1, vi_okI x2, True.intro⟩
  · refine List.forall_mem_cons.mpr ⟨⟨[⟨0, 10, 13, 56⟩], ⟨0, 10, 17, 13⟩, [⟨0, 10, 21, 23⟩, ⟨0, 10, 25, 15⟩], htab, (by intro z hz; simp only [List.mem_cons, List.not_mem_nil, or_false] at hz; subst hz; exact Or.inr ⟨by decide, "java/util/NoSuchElementException", hts _ (List.mem_cons_of_mem _ (lm_ _ (List.mem_of_getElem? (i := 47) rfl))), hT.2.2.2.2 "java/lang/IllegalArgumentException" (by decide) "java/util/NoSuchElementException" (by decide) (by decide)⟩), by decide, by decide, hts _ (List.mem_cons_of_mem _ (lm_ _ (List.mem_of_getElem? (i := 0) rfl))), va_Nw.use rfl (hT.2.2.1 "java/lang/IllegalArgumentException" (by decide)), fun qx H locs w1 hP hD hS ht hk => ?_⟩, ?_⟩
    · refine lv_astore (lv' := [(4, .ref qx), (0, .ref x0), (1, .int x1), (2, .int x2), (3, .ref oa)]) hx hb dL_ask_17 hl (by decide) rfl (fun ls hl => ?_)
      refine lv_iconst (v := 2) hx hb dL_ask_19 (by decide) ?_
      exact W.iret hx hb hr (fun t ht9 _ => ⟨⟨_, w1, _, rfl, by rw [ht9]; exact hP, ht, hk⟩, hS.F ht9⟩) hS.2.2 dL_ask_20
    refine List.forall_mem_cons.mpr ⟨⟨[⟨0, 10, 13, 56⟩, ⟨0, 10, 17, 13⟩, ⟨0, 10, 21, 23⟩], ⟨0, 10, 25, 15⟩, [], htab, (by intro z hz; simp only [List.mem_cons, List.not_mem_nil, or_false] at hz; rcases hz with rfl | rfl | rfl <;> first | exact Or.inr ⟨by decide, "java/util/NoSuchElementException", hts _ (List.mem_cons_of_mem _ (lm_ _ (List.mem_of_getElem? (i := 47) rfl))), hT.2.2.2.2 "java/lang/IllegalStateException" (by decide) "java/util/NoSuchElementException" (by decide) (by decide)⟩ | exact Or.inr ⟨by decide, "java/lang/IllegalArgumentException", hts _ (List.mem_cons_of_mem _ (lm_ _ (List.mem_of_getElem? (i := 0) rfl))), hT.2.2.2.2 "java/lang/IllegalStateException" (by decide) "java/lang/IllegalArgumentException" (by decide) (by decide)⟩ | exact Or.inr ⟨by decide, "java/lang/UnsupportedOperationException", hts _ (List.mem_cons_of_mem _ (lm_ _ (List.mem_of_getElem? (i := 171) rfl))), hT.2.2.2.2 "java/lang/IllegalStateException" (by decide) "java/lang/UnsupportedOperationException" (by decide) (by decide)⟩), by decide, by decide, hts _ (List.mem_cons_of_mem _ (lm_ _ (List.mem_of_getElem? (i := 170) rfl))), va_Nw.use rfl (hT.2.2.1 "java/lang/IllegalStateException" (by decide)), fun qx H locs w1 hP hD hS ht hk => ?_⟩, ?_⟩
    · refine lv_astore (lv' := [(4, .ref qx), (0, .ref x0), (1, .int x1), (2, .int x2), (3, .ref oa)]) hx hb dL_ask_25 hl (by decide) rfl (fun ls hl => ?_)
      refine lv_iconst (v := 4) hx hb dL_ask_27 (by decide) ?_
      exact W.iret hx hb hr (fun t ht9 _ => ⟨⟨_, w1, _, rfl, by rw [ht9]; exact hP, ht, hk⟩, hS.F ht9⟩) hS.2.2 dL_ask_28
    refine List.forall_mem_cons.mpr ⟨⟨[⟨0, 10, 13, 56⟩, ⟨0, 10, 17, 13⟩], ⟨0, 10, 21, 23⟩, [⟨0, 10, 25, 15⟩], htab, (by intro z hz; simp only [List.mem_cons, List.not_mem_nil, or_false] at hz; rcases hz with rfl | rfl <;> first | exact Or.inr ⟨by decide, "java/util/NoSuchElementException", hts _ (List.mem_cons_of_mem _ (lm_ _ (List.mem_of_getElem? (i := 47) rfl))), hT.2.2.2.2 "java/lang/UnsupportedOperationException" (by decide) "java/util/NoSuchElementException" (by decide) (by decide)⟩ | exact Or.inr ⟨by decide, "java/lang/IllegalArgumentException", hts _ (List.mem_cons_of_mem _ (lm_ _ (List.mem_of_getElem? (i := 0) rfl))), hT.2.2.2.2 "java/lang/UnsupportedOperationException" (by decide) "java/lang/IllegalArgumentException" (by decide) (by decide)⟩), by decide, by decide, hts _ (List.mem_cons_of_mem _ (lm_ _ (List.mem_of_getElem? (i := 171) rfl))), va_Nw.use rfl (hT.2.2.1 "java/lang/UnsupportedOperationException" (by decide)), fun qx H locs w1 hP hD hS ht hk => ?_⟩, ?_⟩
    · refine lv_astore (lv' := [(4, .ref qx), (0, .ref x0), (1, .int x1), (2, .int x2), (3, .ref oa)]) hx hb dL_ask_21 hl (by decide) rfl (fun ls hl => ?_)
      refine lv_iconst (v := 3) hx hb dL_ask_23 (by decide) ?_
      exact W.iret hx hb hr (fun t ht9 _ => ⟨⟨_, w1, _, rfl, by rw [ht9]; exact hP, ht, hk⟩, hS.F ht9⟩) hS.2.2 dL_ask_24
    refine List.forall_mem_cons.mpr ⟨⟨[], ⟨0, 10, 13, 56⟩, [⟨0, 10, 17, 13⟩, ⟨0, 10, 21, 23⟩, ⟨0, 10, 25, 15⟩], htab, (fun _ h => absurd h List.not_mem_nil), by decide, by decide, hts _ (List.mem_cons_of_mem _ (lm_ _ (List.mem_of_getElem? (i := 47) rfl))), va_Nw.use rfl (hT.2.2.1 "java/util/NoSuchElementException" (by decide)), fun qx H locs w1 hP hD hS ht hk => ?_⟩, ?_⟩
    · refine lv_astore (lv' := [(4, .ref qx), (0, .ref x0), (1, .int x1), (2, .int x2), (3, .ref oa)]) hx hb dL_ask_13 hl (by decide) rfl (fun ls hl => ?_)
      refine lv_iconst (v := 1) hx hb dL_ask_15 (by decide) ?_
      exact W.iret hx hb hr (fun t ht9 _ => ⟨⟨_, w1, _, rfl, by rw [ht9]; exact hP, ht, hk⟩, hS.F ht9⟩) hS.2.2 dL_ask_16
    exact fun q hq => by cases hq
  · intro alt halt H locs w1 v hP hD hS ht hk ha
    obtain ⟨y, rfl⟩ := vw_int (by decide +kernel) halt ha
    refine lv_i2l (v := y.toInt64) hx hb dL_ask_8 rfl ?_
    refine va_last hx hb hK hP hD hS 0 2 rfl rfl (by unfold vp_in; decide) dL_ask_9 (fun H locs hP hD hS => ?_)
    rw [my_upd0] at hP
    have hP : va_P D vwCl ((oa, .inl (cy 2, 1, .inr (.inl (vp_updL f 0 y.toInt64)))) :: w1) H := hP
    refine lv_goto (tgt := 29) hx hb dL_ask_10 (by decide) ?_
    refine lv_iconst (v := 0) hx hb dL_ask_29 (by decide) ?_
    exact W.iret hx hb hr (fun t ht9 _ => ⟨⟨_, w1, _, rfl, by rw [ht9]; exact hP, ht, hk⟩, hS.F ht9⟩) hS.2.2 dL_ask_30

theorem dL_ring_0 : decode cL_ring 0 = .ok (.aload_n 2, 1) := by decide +kernel
theorem dL_ring_1 : decode cL_ring 1 = .ok (.iconst 0, 1) := by decide +kernel
theorem dL_ring_2 : decode cL_ring 2 = .ok (.aload_n 0, 1) := by decide +kernel
theorem dL_ring_3 : decode cL_ring 3 = .ok (.iload_n 1, 1) := by decide +kernel
theorem dL_ring_4 : decode cL_ring 4 = .ok (.invokevirtual 99, 3) := by decide +kernel
theorem dL_ring_7 : decode cL_ring 7 = .ok (.i2l, 1) := by decide +kernel
theorem dL_ring_8 : decode cL_ring 8 = .ok (.lastore, 1) := by decide +kernel
theorem dL_ring_9 : decode cL_ring 9 = .ok (.goto 6, 3) := by decide +kernel
theorem dL_ring_12 : decode cL_ring 12 = .ok (.astore_n 3, 1) := by decide +kernel
theorem dL_ring_13 : decode cL_ring 13 = .ok (.iconst 1, 1) := by decide +kernel
theorem dL_ring_14 : decode cL_ring 14 = .ok (.ireturn, 1) := by decide +kernel
theorem dL_ring_15 : decode cL_ring 15 = .ok (.iconst 0, 1) := by decide +kernel
theorem dL_ring_16 : decode cL_ring 16 = .ok (.ireturn, 1) := by decide +kernel
set_option maxRecDepth 100000 in
set_option maxHeartbeats 4000000 in
theorem w_ring (l : Launch) (D : va_G) (cy : Nat → ClassId) (hst : l.stackTraces = false) {ad τ : List Nat} {w : va_W} (sz oa : Nat) (f : Nat → Int64) (hs : vi_s1 vSG τ) (ht : vi_tw vK cy (fun _ => True) ad τ w) {x0 q0 : Nat} (hr0 : τ[q0]? = some 0) (hr1 : ad[q0]? = some x0) (x1 : Int32) : vw_M l D cy vK ad τ oa f w sz q_Hubcascade_ring_0.2.2.2.1 yL_ring (Cond.codeWith yL_ring cL_ring 4 (some .int) [(0, 9, 12, 56)] :: lWall) 8 1 136 [.ref x0, .int x1, .ref oa] := by
  refine wr_ofW (cc := cL_ring) (maxL := 4) (ret := (some .int)) (hh := [(0, 9, 12, 56)]) (lv := [(0, .ref x0), (1, .int x1), (2, .ref oa)]) (by decide) rfl (Nat.le_of_ble_eq_true rfl) rfl ?_
  intro p e s m below meth c ls hx hb hr hml hown hlocks htab hts hv hl
  have hown : s.vm.findClass RL = some m.cls := hown
  obtain ⟨⟨⟨hsz, hP, hD0⟩, hK, hN⟩, hT⟩ := hv
  subst hsz
  have hD := hD0.self (sz := s.heap.size)
  generalize hAe : va_A ((oa, .inl (cy 2, 1, .inr (.inl f))) :: w) s.heap.size = A at hD hT ⊢
  have hA : ∀ q : Nat, s.heap.size ≤ q → A q := fun q h => by rw [← hAe]; exact Or.inr h
  have hS : va_S A s.heap s.heap [] := va_S.rf
  have hP : va_P D vwCl ([(oa, .inl (cy 2, 1, .inr (.inl f)))] ++ w) s.heap := hP
  have hD : va_D A ([(oa, .inl (cy 2, 1, .inr (.inl f)))] ++ w) := hD
  have S : CallFix p m c cL_ring 4 s _ (_ :: lWall) RL := ⟨hx, hb, hml, hown, hts⟩
  refine lv_aload_n hx hb dL_ring_0 rfl (lv_at hl 2 rfl) ?_
  refine lv_iconst (v := 0) hx hb dL_ring_1 (by decide) ?_
  refine lv_aload_n hx hb dL_ring_2 rfl (lv_at hl 0 rfl) ?_
  refine lv_iload_n hx hb dL_ring_3 rfl (lv_at hl 1 rfl) ?_
  refine vi_catchV (wr := [(oa, .inl (cy 2, 1, .inr (.inl f)))]) (av := [.ref x0, .int x1]) (rest := [.int 0, .ref oa]) S (m_Hubcascade_ring_0 l D cy hst) (cwV 1 S.2.2.2.2 (lgV (lm_ _ (List.mem_of_getElem? (i := 110) rfl)) (lm_ _ (List.mem_of_getElem? (i := 111) rfl)) (lm_ _ (List.mem_of_getElem? (i := 112) rfl)) (lv_ _ (vm_4 _ (List.mem_of_getElem? (i := 20) rfl))) (lv_ _ (vm_8 _ (List.mem_of_getElem? (i := 26) rfl)))) rfl rfl rfl ⟨rfl, by decide, by decide, by decide +kernel⟩ ⟨Nat.le_of_ble_eq_true rfl, Nat.le_of_ble_eq_true rfl⟩) rfl ⟨_, _, _, _, _, _, rfl, rfl, rfl, rfl⟩ hK hN hs hT hP hD hS hA ht rfl ?_ (fun f hf => by cases hf) hl.1 rfl (Nat.le_of_ble_eq_true rfl) dL_ring_4 ⟨Nat.le_of_ble_eq_true rfl, Nat.le_of_ble_eq_true rfl⟩ ?_ ?_
  · exact vi_tys_ok (ad := ad) (τ := τ) (as := q_Hubcascade_ring_0.1) ⟨Or.inr ⟨q0, x0, hr0, hr1, rfl⟩, vi_okI x1, True.intro⟩
  · refine List.forall_mem_cons.mpr ⟨⟨[], ⟨0, 9, 12, 56⟩, [], htab, (fun _ h => absurd h List.not_mem_nil), by decide, by decide, hts _ (List.mem_cons_of_mem _ (lm_ _ (List.mem_of_getElem? (i := 47) rfl))), va_Nw.use rfl (hT.2.2.1 "java/util/NoSuchElementException" (by decide)), fun qx H locs w1 hP hD hS ht hk => ?_⟩, ?_⟩
    · refine lv_astore_n (lv' := [(3, .ref qx), (0, .ref x0), (1, .int x1), (2, .ref oa)]) hx hb dL_ring_12 rfl hl (by decide) rfl (fun ls hl => ?_)
      refine lv_iconst (v := 1) hx hb dL_ring_13 (by decide) ?_
      exact W.iret hx hb hr (fun t ht9 _ => ⟨⟨_, w1, _, rfl, by rw [ht9]; exact hP, ht, hk⟩, hS.F ht9⟩) hS.2.2 dL_ring_14
    exact fun q hq => by cases hq
  · intro alt halt H locs w1 v hP hD hS ht hk ha
    obtain ⟨y, rfl⟩ := vw_int (by decide +kernel) halt ha
    refine lv_i2l (v := y.toInt64) hx hb dL_ring_7 rfl ?_
    refine va_last hx hb hK hP hD hS 0 2 rfl rfl (by unfold vp_in; decide) dL_ring_8 (fun H locs hP hD hS => ?_)
    rw [my_upd0] at hP
    have hP : va_P D vwCl ((oa, .inl (cy 2, 1, .inr (.inl (vp_updL f 0 y.toInt64)))) :: w1) H := hP
    refine lv_goto (tgt := 15) hx hb dL_ring_9 (by decide) ?_
    refine lv_iconst (v := 0) hx hb dL_ring_15 (by decide) ?_
    exact W.iret hx hb hr (fun t ht9 _ => ⟨⟨_, w1, _, rfl, by rw [ht9]; exact hP, ht, hk⟩, hS.F ht9⟩) hS.2.2 dL_ring_16

theorem dL_isHalted_0 : decode cL_isHalted 0 = .ok (.aload_n 2, 1) := by decide +kernel
theorem dL_isHalted_1 : decode cL_isHalted 1 = .ok (.iconst 0, 1) := by decide +kernel
theorem dL_isHalted_2 : decode cL_isHalted 2 = .ok (.aload_n 0, 1) := by decide +kernel
theorem dL_isHalted_3 : decode cL_isHalted 3 = .ok (.iload_n 1, 1) := by decide +kernel
theorem dL_isHalted_4 : decode cL_isHalted 4 = .ok (.invokevirtual 102, 3) := by decide +kernel
theorem dL_isHalted_7 : decode cL_isHalted 7 = .ok (.ifCond .eq 7, 3) := by decide +kernel
theorem dL_isHalted_10 : decode cL_isHalted 10 = .ok (.lconst 1, 1) := by decide +kernel
theorem dL_isHalted_11 : decode cL_isHalted 11 = .ok (.goto 4, 3) := by decide +kernel
theorem dL_isHalted_14 : decode cL_isHalted 14 = .ok (.lconst 0, 1) := by decide +kernel
theorem dL_isHalted_15 : decode cL_isHalted 15 = .ok (.lastore, 1) := by decide +kernel
theorem dL_isHalted_16 : decode cL_isHalted 16 = .ok (.goto 6, 3) := by decide +kernel
theorem dL_isHalted_19 : decode cL_isHalted 19 = .ok (.astore_n 3, 1) := by decide +kernel
theorem dL_isHalted_20 : decode cL_isHalted 20 = .ok (.iconst 1, 1) := by decide +kernel
theorem dL_isHalted_21 : decode cL_isHalted 21 = .ok (.ireturn, 1) := by decide +kernel
theorem dL_isHalted_22 : decode cL_isHalted 22 = .ok (.iconst 0, 1) := by decide +kernel
theorem dL_isHalted_23 : decode cL_isHalted 23 = .ok (.ireturn, 1) := by decide +kernel
set_option maxRecDepth 100000 in
set_option maxHeartbeats 4000000 in
theorem w_isHalted (l : Launch) (D : va_G) (cy : Nat → ClassId) (hst : l.stackTraces = false) {ad τ : List Nat} {w : va_W} (sz oa : Nat) (f : Nat → Int64) (hs : vi_s1 vSG τ) (ht : vi_tw vK cy (fun _ => True) ad τ w) {x0 q0 : Nat} (hr0 : τ[q0]? = some 0) (hr1 : ad[q0]? = some x0) (x1 : Int32) : vw_M l D cy vK ad τ oa f w sz q_Hubcascade_isHalted_0.2.2.2.1 yL_isHalted (Cond.codeWith yL_isHalted cL_isHalted 4 (some .int) [(0, 16, 19, 56)] :: lWall) 8 1 132 [.ref x0, .int x1, .ref oa] := by
  refine wr_ofW (cc := cL_isHalted) (maxL := 4) (ret := (some .int)) (hh := [(0, 16, 19, 56)]) (lv := [(0, .ref x0), (1, .int x1), (2, .ref oa)]) (by decide) rfl (Nat.le_of_ble_eq_true rfl) rfl ?_
  intro p e s m below meth c ls hx hb hr hml hown hlocks htab hts hv hl
  have hown : s.vm.findClass RL = some m.cls := hown
  obtain ⟨⟨⟨hsz, hP, hD0⟩, hK, hN⟩, hT⟩ := hv
  subst hsz
  have hD := hD0.self (sz := s.heap.size)
  generalize hAe : va_A ((oa, .inl (cy 2, 1, .inr (.inl f))) :: w) s.heap.size = A at hD hT ⊢
  have hA : ∀ q : Nat, s.heap.size ≤ q → A q := fun q h => by rw [← hAe]; exact Or.inr h
  have hS : va_S A s.heap s.heap [] := va_S.rf
  have hP : va_P D vwCl ([(oa, .inl (cy 2, 1, .inr (.inl f)))] ++ w) s.heap := hP
  have hD : va_D A ([(oa, .inl (cy 2, 1, .inr (.inl f)))] ++ w) := hD
  have S : CallFix p m c cL_isHalted 4 s _ (_ :: lWall) RL := ⟨hx, hb, hml, hown, hts⟩
  refine lv_aload_n hx hb dL_isHalted_0 rfl (lv_at hl 2 rfl) ?_
  refine lv_iconst (v := 0) hx hb dL_isHalted_1 (by decide) ?_
  refine lv_aload_n hx hb dL_isHalted_2 rfl (lv_at hl 0 rfl) ?_
  refine lv_iload_n hx hb dL_isHalted_3 rfl (lv_at hl 1 rfl) ?_
  refine vi_catchV (wr := [(oa, .inl (cy 2, 1, .inr (.inl f)))]) (av := [.ref x0, .int x1]) (rest := [.int 0, .ref oa]) S (m_Hubcascade_isHalted_0 l D cy hst) (cwV 1 S.2.2.2.2 (lgV (lm_ _ (List.mem_of_getElem? (i := 113) rfl)) (lm_ _ (List.mem_of_getElem? (i := 114) rfl)) (lm_ _ (List.mem_of_getElem? (i := 115) rfl)) (lv_ _ (vm_4 _ (List.mem_of_getElem? (i := 20) rfl))) (lv_ _ (vm_8 _ (List.mem_of_getElem? (i := 27) rfl)))) rfl rfl rfl ⟨rfl, by decide, by decide, by decide +kernel⟩ ⟨Nat.le_of_ble_eq_true rfl, Nat.le_of_ble_eq_true rfl⟩) rfl ⟨_, _, _, _, _, _, rfl, rfl, rfl, rfl⟩ hK hN hs hT hP hD hS hA ht rfl ?_ (fun f hf => by cases hf) hl.1 rfl (Nat.le_of_ble_eq_true rfl) dL_isHalted_4 ⟨Nat.le_of_ble_eq_true rfl, Nat.le_of_ble_eq_true rfl⟩ ?_ ?_
  · exact vi_tys_ok (ad := ad) (τ := τ) (as := q_Hubcascade_isHalted_0.1) ⟨Or.inr ⟨q0, x0, hr0, hr1, rfl⟩, vi_okI x1, True.intro⟩
  · refine List.forall_mem_cons.mpr ⟨⟨[], ⟨0, 16, 19, 56⟩, [], htab, (fun _ h => absurd h List.not_mem_nil), by decide, by decide, hts _ (List.mem_cons_of_mem _ (lm_ _ (List.mem_of_getElem? (i := 47) rfl))), va_Nw.use rfl (hT.2.2.1 "java/util/NoSuchElementException" (by decide)), fun qx H locs w1 hP hD hS ht hk => ?_⟩, ?_⟩
    · refine lv_astore_n (lv' := [(3, .ref qx), (0, .ref x0), (1, .int x1), (2, .ref oa)]) hx hb dL_isHalted_19 rfl hl (by decide) rfl (fun ls hl => ?_)
      refine lv_iconst (v := 1) hx hb dL_isHalted_20 (by decide) ?_
      exact W.iret hx hb hr (fun t ht9 _ => ⟨⟨_, w1, _, rfl, by rw [ht9]; exact hP, ht, hk⟩, hS.F ht9⟩) hS.2.2 dL_isHalted_21
    exact fun q hq => by cases hq
  · intro alt halt H locs w1 v hP hD hS ht hk ha
    obtain ⟨y, rfl⟩ := vw_int (by decide +kernel) halt ha
    refine lv_if_eq (tgt := 14) hx hb dL_isHalted_7 (by decide) (fun _ => ?_) (fun _ => ?_)
    · refine lv_lconst (v := 0) hx hb dL_isHalted_14 (by decide) ?_
      refine va_last hx hb hK hP hD hS 0 2 rfl rfl (by unfold vp_in; decide) dL_isHalted_15 (fun H locs hP hD hS => ?_)
      rw [my_upd0] at hP
      have hP : va_P D vwCl ((oa, .inl (cy 2, 1, .inr (.inl (vp_updL f 0 (0 : Int64))))) :: w1) H := hP
      refine lv_goto (tgt := 22) hx hb dL_isHalted_16 (by decide) ?_
      refine lv_iconst (v := 0) hx hb dL_isHalted_22 (by decide) ?_
      exact W.iret hx hb hr (fun t ht9 _ => ⟨⟨_, w1, _, rfl, by rw [ht9]; exact hP, ht, hk⟩, hS.F ht9⟩) hS.2.2 dL_isHalted_23
    · refine lv_lconst (v := 1) hx hb dL_isHalted_10 (by decide) ?_
      refine lv_goto (tgt := 15) hx hb dL_isHalted_11 (by decide) ?_
      refine va_last hx hb hK hP hD hS 0 2 rfl rfl (by unfold vp_in; decide) dL_isHalted_15 (fun H locs hP hD hS => ?_)
      rw [my_upd0] at hP
      have hP : va_P D vwCl ((oa, .inl (cy 2, 1, .inr (.inl (vp_updL f 0 (1 : Int64))))) :: w1) H := hP
      refine lv_goto (tgt := 22) hx hb dL_isHalted_16 (by decide) ?_
      refine lv_iconst (v := 0) hx hb dL_isHalted_22 (by decide) ?_
      exact W.iret hx hb hr (fun t ht9 _ => ⟨⟨_, w1, _, rfl, by rw [ht9]; exact hP, ht, hk⟩, hS.F ht9⟩) hS.2.2 dL_isHalted_23

theorem dL_clear_0 : decode cL_clear 0 = .ok (.aload_n 2, 1) := by decide +kernel
theorem dL_clear_1 : decode cL_clear 1 = .ok (.iconst 0, 1) := by decide +kernel
theorem dL_clear_2 : decode cL_clear 2 = .ok (.aload_n 0, 1) := by decide +kernel
theorem dL_clear_3 : decode cL_clear 3 = .ok (.iload_n 1, 1) := by decide +kernel
theorem dL_clear_4 : decode cL_clear 4 = .ok (.invokevirtual 106, 3) := by decide +kernel
theorem dL_clear_7 : decode cL_clear 7 = .ok (.i2l, 1) := by decide +kernel
theorem dL_clear_8 : decode cL_clear 8 = .ok (.lastore, 1) := by decide +kernel
theorem dL_clear_9 : decode cL_clear 9 = .ok (.goto 6, 3) := by decide +kernel
theorem dL_clear_12 : decode cL_clear 12 = .ok (.astore_n 3, 1) := by decide +kernel
theorem dL_clear_13 : decode cL_clear 13 = .ok (.iconst 1, 1) := by decide +kernel
theorem dL_clear_14 : decode cL_clear 14 = .ok (.ireturn, 1) := by decide +kernel
theorem dL_clear_15 : decode cL_clear 15 = .ok (.iconst 0, 1) := by decide +kernel
theorem dL_clear_16 : decode cL_clear 16 = .ok (.ireturn, 1) := by decide +kernel
set_option maxRecDepth 100000 in
set_option maxHeartbeats 4000000 in
theorem w_clear (l : Launch) (D : va_G) (cy : Nat → ClassId) (hst : l.stackTraces = false) {ad τ : List Nat} {w : va_W} (sz oa : Nat) (f : Nat → Int64) (hs : vi_s1 vSG τ) (ht : vi_tw vK cy (fun _ => True) ad τ w) {x0 q0 : Nat} (hr0 : τ[q0]? = some 0) (hr1 : ad[q0]? = some x0) (x1 : Int32) : vw_M l D cy vK ad τ oa f w sz q_Hubcascade_clear_0.2.2.2.1 yL_clear (Cond.codeWith yL_clear cL_clear 4 (some .int) [(0, 9, 12, 56)] :: lWall) 8 1 133 [.ref x0, .int x1, .ref oa] := by
  refine wr_ofW (cc := cL_clear) (maxL := 4) (ret := (some .int)) (hh := [(0, 9, 12, 56)]) (lv := [(0, .ref x0), (1, .int x1), (2, .ref oa)]) (by decide) rfl (Nat.le_of_ble_eq_true rfl) rfl ?_
  intro p e s m below meth c ls hx hb hr hml hown hlocks htab hts hv hl
  have hown : s.vm.findClass RL = some m.cls := hown
  obtain ⟨⟨⟨hsz, hP, hD0⟩, hK, hN⟩, hT⟩ := hv
  subst hsz
  have hD := hD0.self (sz := s.heap.size)
  generalize hAe : va_A ((oa, .inl (cy 2, 1, .inr (.inl f))) :: w) s.heap.size = A at hD hT ⊢
  have hA : ∀ q : Nat, s.heap.size ≤ q → A q := fun q h => by rw [← hAe]; exact Or.inr h
  have hS : va_S A s.heap s.heap [] := va_S.rf
  have hP : va_P D vwCl ([(oa, .inl (cy 2, 1, .inr (.inl f)))] ++ w) s.heap := hP
  have hD : va_D A ([(oa, .inl (cy 2, 1, .inr (.inl f)))] ++ w) := hD
  have S : CallFix p m c cL_clear 4 s _ (_ :: lWall) RL := ⟨hx, hb, hml, hown, hts⟩
  refine lv_aload_n hx hb dL_clear_0 rfl (lv_at hl 2 rfl) ?_
  refine lv_iconst (v := 0) hx hb dL_clear_1 (by decide) ?_
  refine lv_aload_n hx hb dL_clear_2 rfl (lv_at hl 0 rfl) ?_
  refine lv_iload_n hx hb dL_clear_3 rfl (lv_at hl 1 rfl) ?_
  refine vi_catchV (wr := [(oa, .inl (cy 2, 1, .inr (.inl f)))]) (av := [.ref x0, .int x1]) (rest := [.int 0, .ref oa]) S (m_Hubcascade_clear_0 l D cy hst) (cwV 1 S.2.2.2.2 (lgV (lm_ _ (List.mem_of_getElem? (i := 116) rfl)) (lm_ _ (List.mem_of_getElem? (i := 117) rfl)) (lm_ _ (List.mem_of_getElem? (i := 118) rfl)) (lv_ _ (vm_4 _ (List.mem_of_getElem? (i := 20) rfl))) (lv_ _ (vm_8 _ (List.mem_of_getElem? (i := 28) rfl)))) rfl rfl rfl ⟨rfl, by decide, by decide, by decide +kernel⟩ ⟨Nat.le_of_ble_eq_true rfl, Nat.le_of_ble_eq_true rfl⟩) rfl ⟨_, _, _, _, _, _, rfl, rfl, rfl, rfl⟩ hK hN hs hT hP hD hS hA ht rfl ?_ (fun f hf => by cases hf) hl.1 rfl (Nat.le_of_ble_eq_true rfl) dL_clear_4 ⟨Nat.le_of_ble_eq_true rfl, Nat.le_of_ble_eq_true rfl⟩ ?_ ?_
  · exact vi_tys_ok (ad := ad) (τ := τ) (as := q_Hubcascade_clear_0.1) ⟨Or.inr ⟨q0, x0, hr0, hr1, rfl⟩, vi_okI x1, True.intro⟩
  · refine List.forall_mem_cons.mpr ⟨⟨[], ⟨0, 9, 12, 56⟩, [], htab, (fun _ h => absurd h List.not_mem_nil), by decide, by decide, hts _ (List.mem_cons_of_mem _ (lm_ _ (List.mem_of_getElem? (i := 47) rfl))), va_Nw.use rfl (hT.2.2.1 "java/util/NoSuchElementException" (by decide)), fun qx H locs w1 hP hD hS ht hk => ?_⟩, ?_⟩
    · refine lv_astore_n (lv' := [(3, .ref qx), (0, .ref x0), (1, .int x1), (2, .ref oa)]) hx hb dL_clear_12 rfl hl (by decide) rfl (fun ls hl => ?_)
      refine lv_iconst (v := 1) hx hb dL_clear_13 (by decide) ?_
      exact W.iret hx hb hr (fun t ht9 _ => ⟨⟨_, w1, _, rfl, by rw [ht9]; exact hP, ht, hk⟩, hS.F ht9⟩) hS.2.2 dL_clear_14
    exact fun q hq => by cases hq
  · intro alt halt H locs w1 v hP hD hS ht hk ha
    obtain ⟨y, rfl⟩ := vw_int (by decide +kernel) halt ha
    refine lv_i2l (v := y.toInt64) hx hb dL_clear_7 rfl ?_
    refine va_last hx hb hK hP hD hS 0 2 rfl rfl (by unfold vp_in; decide) dL_clear_8 (fun H locs hP hD hS => ?_)
    rw [my_upd0] at hP
    have hP : va_P D vwCl ((oa, .inl (cy 2, 1, .inr (.inl (vp_updL f 0 y.toInt64)))) :: w1) H := hP
    refine lv_goto (tgt := 15) hx hb dL_clear_9 (by decide) ?_
    refine lv_iconst (v := 0) hx hb dL_clear_15 (by decide) ?_
    exact W.iret hx hb hr (fun t ht9 _ => ⟨⟨_, w1, _, rfl, by rw [ht9]; exact hP, ht, hk⟩, hS.F ht9⟩) hS.2.2 dL_clear_16

theorem dL_cancel_0 : decode cL_cancel 0 = .ok (.aload_n 2, 1) := by decide +kernel
theorem dL_cancel_1 : decode cL_cancel 1 = .ok (.iconst 0, 1) := by decide +kernel
theorem dL_cancel_2 : decode cL_cancel 2 = .ok (.aload_n 0, 1) := by decide +kernel
theorem dL_cancel_3 : decode cL_cancel 3 = .ok (.iload_n 1, 1) := by decide +kernel
theorem dL_cancel_4 : decode cL_cancel 4 = .ok (.invokevirtual 109, 3) := by decide +kernel
theorem dL_cancel_7 : decode cL_cancel 7 = .ok (.i2l, 1) := by decide +kernel
theorem dL_cancel_8 : decode cL_cancel 8 = .ok (.lastore, 1) := by decide +kernel
theorem dL_cancel_9 : decode cL_cancel 9 = .ok (.goto 9, 3) := by decide +kernel
theorem dL_cancel_12 : decode cL_cancel 12 = .ok (.astore_n 3, 1) := by decide +kernel
theorem dL_cancel_13 : decode cL_cancel 13 = .ok (.iconst 1, 1) := by decide +kernel
theorem dL_cancel_14 : decode cL_cancel 14 = .ok (.ireturn, 1) := by decide +kernel
theorem dL_cancel_15 : decode cL_cancel 15 = .ok (.astore_n 3, 1) := by decide +kernel
theorem dL_cancel_16 : decode cL_cancel 16 = .ok (.iconst 2, 1) := by decide +kernel
theorem dL_cancel_17 : decode cL_cancel 17 = .ok (.ireturn, 1) := by decide +kernel
theorem dL_cancel_18 : decode cL_cancel 18 = .ok (.iconst 0, 1) := by decide +kernel
theorem dL_cancel_19 : decode cL_cancel 19 = .ok (.ireturn, 1) := by decide +kernel
set_option maxRecDepth 100000 in
set_option maxHeartbeats 4000000 in
theorem w_cancel (l : Launch) (D : va_G) (cy : Nat → ClassId) (hst : l.stackTraces = false) {ad τ : List Nat} {w : va_W} (sz oa : Nat) (f : Nat → Int64) (hs : vi_s1 vSG τ) (ht : vi_tw vK cy (fun _ => True) ad τ w) {x0 q0 : Nat} (hr0 : τ[q0]? = some 0) (hr1 : ad[q0]? = some x0) (x1 : Int32) : vw_M l D cy vK ad τ oa f w sz q_Hubcascade_cancel_0.2.2.2.1 yL_cancel (Cond.codeWith yL_cancel cL_cancel 4 (some .int) [(0, 9, 12, 56), (0, 9, 15, 23)] :: lWall) 8 2 134 [.ref x0, .int x1, .ref oa] := by
  refine wr_ofW (cc := cL_cancel) (maxL := 4) (ret := (some .int)) (hh := [(0, 9, 12, 56), (0, 9, 15, 23)]) (lv := [(0, .ref x0), (1, .int x1), (2, .ref oa)]) (by decide) rfl (Nat.le_of_ble_eq_true rfl) rfl ?_
  intro p e s m below meth c ls hx hb hr hml hown hlocks htab hts hv hl
  have hown : s.vm.findClass RL = some m.cls := hown
  obtain ⟨⟨⟨hsz, hP, hD0⟩, hK, hN⟩, hT⟩ := hv
  subst hsz
  have hD := hD0.self (sz := s.heap.size)
  generalize hAe : va_A ((oa, .inl (cy 2, 1, .inr (.inl f))) :: w) s.heap.size = A at hD hT ⊢
  have hA : ∀ q : Nat, s.heap.size ≤ q → A q := fun q h => by rw [← hAe]; exact Or.inr h
  have hS : va_S A s.heap s.heap [] := va_S.rf
  have hP : va_P D vwCl ([(oa, .inl (cy 2, 1, .inr (.inl f)))] ++ w) s.heap := hP
  have hD : va_D A ([(oa, .inl (cy 2, 1, .inr (.inl f)))] ++ w) := hD
  have S : CallFix p m c cL_cancel 4 s _ (_ :: lWall) RL := ⟨hx, hb, hml, hown, hts⟩
  refine lv_aload_n hx hb dL_cancel_0 rfl (lv_at hl 2 rfl) ?_
  refine lv_iconst (v := 0) hx hb dL_cancel_1 (by decide) ?_
  refine lv_aload_n hx hb dL_cancel_2 rfl (lv_at hl 0 rfl) ?_
  refine lv_iload_n hx hb dL_cancel_3 rfl (lv_at hl 1 rfl) ?_
  refine vi_catchV (wr := [(oa, .inl (cy 2, 1, .inr (.inl f)))]) (av := [.ref x0, .int x1]) (rest := [.int 0, .ref oa]) S (m_Hubcascade_cancel_0 l D cy hst) (cwV 1 S.2.2.2.2 (lgV (lm_ _ (List.mem_of_getElem? (i := 119) rfl)) (lm_ _ (List.mem_of_getElem? (i := 120) rfl)) (lm_ _ (List.mem_of_getElem? (i := 121) rfl)) (lv_ _ (vm_4 _ (List.mem_of_getElem? (i := 20) rfl))) (lv_ _ (vm_8 _ (List.mem_of_getElem? (i := 29) rfl)))) rfl rfl rfl ⟨rfl, by decide, by decide, by decide +kernel⟩ ⟨Nat.le_of_ble_eq_true rfl, Nat.le_of_ble_eq_true rfl⟩) rfl ⟨_, _, _, _, _, _, rfl, rfl, rfl, rfl⟩ hK hN hs hT hP hD hS hA ht rfl ?_ (fun f hf => by cases hf) hl.1 rfl (Nat.le_of_ble_eq_true rfl) dL_cancel_4 ⟨Nat.le_of_ble_eq_true rfl, Nat.le_of_ble_eq_true rfl⟩ ?_ ?_
  · exact vi_tys_ok (ad := ad) (τ := τ) (as := q_Hubcascade_cancel_0.1) ⟨Or.inr ⟨q0, x0, hr0, hr1, rfl⟩, vi_okI x1, True.intro⟩
  · refine List.forall_mem_cons.mpr ⟨⟨[⟨0, 9, 12, 56⟩], ⟨0, 9, 15, 23⟩, [], htab, (by intro z hz; simp only [List.mem_cons, List.not_mem_nil, or_false] at hz; subst hz; exact Or.inr ⟨by decide, "java/util/NoSuchElementException", hts _ (List.mem_cons_of_mem _ (lm_ _ (List.mem_of_getElem? (i := 47) rfl))), hT.2.2.2.2 "java/lang/UnsupportedOperationException" (by decide) "java/util/NoSuchElementException" (by decide) (by decide)⟩), by decide, by decide, hts _ (List.mem_cons_of_mem _ (lm_ _ (List.mem_of_getElem? (i := 171) rfl))), va_Nw.use rfl (hT.2.2.1 "java/lang/UnsupportedOperationException" (by decide)), fun qx H locs w1 hP hD hS ht hk => ?_⟩, ?_⟩
    · refine lv_astore_n (lv' := [(3, .ref qx), (0, .ref x0), (1, .int x1), (2, .ref oa)]) hx hb dL_cancel_15 rfl hl (by decide) rfl (fun ls hl => ?_)
      refine lv_iconst (v := 2) hx hb dL_cancel_16 (by decide) ?_
      exact W.iret hx hb hr (fun t ht9 _ => ⟨⟨_, w1, _, rfl, by rw [ht9]; exact hP, ht, hk⟩, hS.F ht9⟩) hS.2.2 dL_cancel_17
    refine List.forall_mem_cons.mpr ⟨⟨[], ⟨0, 9, 12, 56⟩, [⟨0, 9, 15, 23⟩], htab, (fun _ h => absurd h List.not_mem_nil), by decide, by decide, hts _ (List.mem_cons_of_mem _ (lm_ _ (List.mem_of_getElem? (i := 47) rfl))), va_Nw.use rfl (hT.2.2.1 "java/util/NoSuchElementException" (by decide)), fun qx H locs w1 hP hD hS ht hk => ?_⟩, ?_⟩
    · refine lv_astore_n (lv' := [(3, .ref qx), (0, .ref x0), (1, .int x1), (2, .ref oa)]) hx hb dL_cancel_12 rfl hl (by decide) rfl (fun ls hl => ?_)
      refine lv_iconst (v := 1) hx hb dL_cancel_13 (by decide) ?_
      exact W.iret hx hb hr (fun t ht9 _ => ⟨⟨_, w1, _, rfl, by rw [ht9]; exact hP, ht, hk⟩, hS.F ht9⟩) hS.2.2 dL_cancel_14
    exact fun q hq => by cases hq
  · intro alt halt H locs w1 v hP hD hS ht hk ha
    obtain ⟨y, rfl⟩ := vw_int (by decide +kernel) halt ha
    refine lv_i2l (v := y.toInt64) hx hb dL_cancel_7 rfl ?_
    refine va_last hx hb hK hP hD hS 0 2 rfl rfl (by unfold vp_in; decide) dL_cancel_8 (fun H locs hP hD hS => ?_)
    rw [my_upd0] at hP
    have hP : va_P D vwCl ((oa, .inl (cy 2, 1, .inr (.inl (vp_updL f 0 y.toInt64)))) :: w1) H := hP
    refine lv_goto (tgt := 18) hx hb dL_cancel_9 (by decide) ?_
    refine lv_iconst (v := 0) hx hb dL_cancel_18 (by decide) ?_
    exact W.iret hx hb hr (fun t ht9 _ => ⟨⟨_, w1, _, rfl, by rw [ht9]; exact hP, ht, hk⟩, hS.F ht9⟩) hS.2.2 dL_cancel_19
end VWRB
