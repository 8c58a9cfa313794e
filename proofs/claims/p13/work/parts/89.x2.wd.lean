section VWD
set_option maxRecDepth 100000 in
set_option maxHeartbeats 4000000 in
theorem wm_da (l : Launch) (D : va_G) (cy : Nat → ClassId) (hst : l.stackTraces = false) {ad τ : List Nat} {w : va_W} (sz oa : Nat) (f : Nat → Int64) (hs : vi_s1 vSG τ) (ht : vi_tw vK cy (fun _ => True) ad τ w) {x0 q0 : Nat} (hr0 : τ[q0]? = some 0) (hr1 : ad[q0]? = some x0) {vs : List Value} (hw0 : w[q0]? = some (x0, .inr (14, vs))) (x1 : Int32) (x2 : Int32) (hno : ¬ ((0 ≤ x1.toInt ∧ x1.toInt ≤ 9) ∧ (-1 ≤ x2.toInt ∧ x2.toInt ≤ 9))) : vw_MG l D cy vK ad τ oa (.inl (cy 2, 1, .inr (.inl f))) w sz [] (fun k w1 o1 => k = 1 ∧ o1 = .inl (cy 2, 1, .inr (.inl f))) yL_driver (Cond.codeWith yL_driver cL_driver 5 (some .int) [(0, 10, 13, 13), (0, 10, 17, 15)] :: lWall) 7 1 116 [.ref x0, .int x1, .int x2, .ref oa] := by
  refine wr_ofW (cc := cL_driver) (maxL := 5) (ret := (some .int)) (hh := [(0, 10, 13, 13), (0, 10, 17, 15)]) (lv := [(0, .ref x0), (1, .int x1), (2, .int x2), (3, .ref oa)]) (by decide) rfl (Nat.le_of_ble_eq_true rfl) rfl ?_
  intro p e s m below meth c ls hx hb hr hml hown hlocks htab hts hv hl
  have hown : s.vm.findClass RL = some m.cls := hown
  obtain ⟨⟨⟨hsz, hP, hD0⟩, hK, hN⟩, hT⟩ := hv
  subst hsz
  have hD := hD0.self (sz := s.heap.size)
  generalize hAe : va_A ((oa, .inl (cy 2, 1, .inr (.inl f))) :: w) s.heap.size = A at hD hT ⊢
  have hA : ∀ q : Nat, s.heap.size ≤ q → A q := fun q h => by rw [← hAe]; exact Or.inr h
  have hS : va_S A s.heap s.heap [] := va_S.rf
  have hP : va_P D vwCl ([(oa, .inl (cy 2, 1, .inr (.inl f)))] ++ w) s.heap := hP
  have hD : va_D A ([(oa, .inl (cy 2, 1, .inr (.inl f)))] ++ w) := hD
  have S : CallFix p m c cL_driver 5 s _ (_ :: lWall) RL := ⟨hx, hb, hml, hown, hts⟩
  refine lv_aload_n hx hb dL_driver_0 rfl (lv_at hl 3 rfl) ?_
  refine lv_iconst (v := 0) hx hb dL_driver_1 (by decide) ?_
  refine lv_aload_n hx hb dL_driver_2 rfl (lv_at hl 0 rfl) ?_
  refine lv_iload_n hx hb dL_driver_3 rfl (lv_at hl 1 rfl) ?_
  refine lv_iload_n hx hb dL_driver_4 rfl (lv_at hl 2 rfl) ?_
  refine vi_catchG (wr := [(oa, .inl (cy 2, 1, .inr (.inl f)))]) (b := x0) (As := [.int x1, .int x2]) (rest := [.int 0, .ref oa]) S (dk_ia l D cy hst ht hno s.heap.size) (cwV 2 S.2.2.2.2 (lgV (lm_ _ (List.mem_of_getElem? (i := 65) rfl)) (lm_ _ (List.mem_of_getElem? (i := 66) rfl)) (lm_ _ (List.mem_of_getElem? (i := 67) rfl)) (lv_ _ (vm_4 _ (List.mem_of_getElem? (i := 20) rfl))) (lv_ _ (vm_7 _ (List.mem_of_getElem? (i := 10) rfl)))) rfl rfl rfl ⟨rfl, by decide, by decide, by decide +kernel⟩ ⟨Nat.le_of_ble_eq_true rfl, Nat.le_of_ble_eq_true rfl⟩) rfl (va_recv hK hP.right (ci := 14) rfl hw0) hK hN hT hP hD hS hA ht hl.1 rfl (Nat.le_of_ble_eq_true rfl) dL_driver_5 ⟨Nat.le_of_ble_eq_true rfl, Nat.le_of_ble_eq_true rfl⟩ ?_ ?_
  · refine List.forall_mem_cons.mpr ⟨⟨[], ⟨0, 10, 13, 13⟩, [⟨0, 10, 17, 15⟩], htab, (fun _ h => absurd h List.not_mem_nil), by decide, by decide, hts _ (List.mem_cons_of_mem _ (lm_ _ (List.mem_of_getElem? (i := 0) rfl))), va_Nw.use rfl (hT.2.2.1 "java/lang/IllegalArgumentException" (by decide)), fun qx H locs w1 hP hD hS ht hk => ?_⟩, ?_⟩
    · refine lv_astore (lv' := [(4, .ref qx), (0, .ref x0), (1, .int x1), (2, .int x2), (3, .ref oa)]) hx hb dL_driver_13 hl (by decide) rfl (fun ls hl => ?_)
      refine lv_iconst (v := 1) hx hb dL_driver_15 (by decide) ?_
      exact W.iret hx hb hr (fun t ht9 _ => ⟨⟨_, w1, _, rfl, by rw [ht9]; exact hP, ht, hk, rfl, rfl⟩, hS.F ht9⟩) hS.2.2 dL_driver_16
    exact fun q hq => by cases hq
  · intro H locs w1 v hP hD hS ht hk h9
    exact h9.elim
set_option maxRecDepth 100000 in
set_option maxHeartbeats 4000000 in
theorem wm_ds (l : Launch) (D : va_G) (cy : Nat → ClassId) (hst : l.stackTraces = false) {ad τ : List Nat} {w : va_W} (sz oa : Nat) (f : Nat → Int64) (hs : vi_s1 vSG τ) (ht : vi_tw vK cy (fun _ => True) ad τ w) {x0 q0 : Nat} (hr0 : τ[q0]? = some 0) (hr1 : ad[q0]? = some x0) {vs : List Value} (hw0 : w[q0]? = some (x0, .inr (14, vs))) (x1 : Int32) (x2 : Int32) {dc : Int32} (hv4 : vs[4]? = some (.int dc)) (hok : (0 ≤ x1.toInt ∧ x1.toInt ≤ 9) ∧ (-1 ≤ x2.toInt ∧ x2.toInt ≤ 9)) (hd : dc = 8) : vw_MG l D cy vK ad τ oa (.inl (cy 2, 1, .inr (.inl f))) w sz [] (fun k w1 o1 => k = 2 ∧ o1 = .inl (cy 2, 1, .inr (.inl f))) yL_driver (Cond.codeWith yL_driver cL_driver 5 (some .int) [(0, 10, 13, 13), (0, 10, 17, 15)] :: lWall) 7 1 116 [.ref x0, .int x1, .int x2, .ref oa] := by
  refine wr_ofW (cc := cL_driver) (maxL := 5) (ret := (some .int)) (hh := [(0, 10, 13, 13), (0, 10, 17, 15)]) (lv := [(0, .ref x0), (1, .int x1), (2, .int x2), (3, .ref oa)]) (by decide) rfl (Nat.le_of_ble_eq_true rfl) rfl ?_
  intro p e s m below meth c ls hx hb hr hml hown hlocks htab hts hv hl
  have hown : s.vm.findClass RL = some m.cls := hown
  obtain ⟨⟨⟨hsz, hP, hD0⟩, hK, hN⟩, hT⟩ := hv
  subst hsz
  have hD := hD0.self (sz := s.heap.size)
  generalize hAe : va_A ((oa, .inl (cy 2, 1, .inr (.inl f))) :: w) s.heap.size = A at hD hT ⊢
  have hA : ∀ q : Nat, s.heap.size ≤ q → A q := fun q h => by rw [← hAe]; exact Or.inr h
  have hS : va_S A s.heap s.heap [] := va_S.rf
  have hP : va_P D vwCl ([(oa, .inl (cy 2, 1, .inr (.inl f)))] ++ w) s.heap := hP
  have hD : va_D A ([(oa, .inl (cy 2, 1, .inr (.inl f)))] ++ w) := hD
  have S : CallFix p m c cL_driver 5 s _ (_ :: lWall) RL := ⟨hx, hb, hml, hown, hts⟩
  refine lv_aload_n hx hb dL_driver_0 rfl (lv_at hl 3 rfl) ?_
  refine lv_iconst (v := 0) hx hb dL_driver_1 (by decide) ?_
  refine lv_aload_n hx hb dL_driver_2 rfl (lv_at hl 0 rfl) ?_
  refine lv_iload_n hx hb dL_driver_3 rfl (lv_at hl 1 rfl) ?_
  refine lv_iload_n hx hb dL_driver_4 rfl (lv_at hl 2 rfl) ?_
  refine vi_catchG (wr := [(oa, .inl (cy 2, 1, .inr (.inl f)))]) (b := x0) (As := [.int x1, .int x2]) (rest := [.int 0, .ref oa]) S (dk_is l D cy hst ht hw0 hv4 hok hd s.heap.size) (cwV 2 S.2.2.2.2 (lgV (lm_ _ (List.mem_of_getElem? (i := 65) rfl)) (lm_ _ (List.mem_of_getElem? (i := 66) rfl)) (lm_ _ (List.mem_of_getElem? (i := 67) rfl)) (lv_ _ (vm_4 _ (List.mem_of_getElem? (i := 20) rfl))) (lv_ _ (vm_7 _ (List.mem_of_getElem? (i := 10) rfl)))) rfl rfl rfl ⟨rfl, by decide, by decide, by decide +kernel⟩ ⟨Nat.le_of_ble_eq_true rfl, Nat.le_of_ble_eq_true rfl⟩) rfl (va_recv hK hP.right (ci := 14) rfl hw0) hK hN hT hP hD hS hA ht hl.1 rfl (Nat.le_of_ble_eq_true rfl) dL_driver_5 ⟨Nat.le_of_ble_eq_true rfl, Nat.le_of_ble_eq_true rfl⟩ ?_ ?_
  · refine List.forall_mem_cons.mpr ⟨⟨[⟨0, 10, 13, 13⟩], ⟨0, 10, 17, 15⟩, [], htab, (by intro z hz; simp only [List.mem_cons, List.not_mem_nil, or_false] at hz; subst hz; exact Or.inr ⟨by decide, "java/lang/IllegalArgumentException", hts _ (List.mem_cons_of_mem _ (lm_ _ (List.mem_of_getElem? (i := 0) rfl))), hT.2.2.2.2 "java/lang/IllegalStateException" (by decide) "java/lang/IllegalArgumentException" (by decide) (by decide)⟩), by decide, by decide, hts _ (List.mem_cons_of_mem _ (lm_ _ (List.mem_of_getElem? (i := 170) rfl))), va_Nw.use rfl (hT.2.2.1 "java/lang/IllegalStateException" (by decide)), fun qx H locs w1 hP hD hS ht hk => ?_⟩, ?_⟩
    · refine lv_astore (lv' := [(4, .ref qx), (0, .ref x0), (1, .int x1), (2, .int x2), (3, .ref oa)]) hx hb dL_driver_17 hl (by decide) rfl (fun ls hl => ?_)
      refine lv_iconst (v := 2) hx hb dL_driver_19 (by decide) ?_
      exact W.iret hx hb hr (fun t ht9 _ => ⟨⟨_, w1, _, rfl, by rw [ht9]; exact hP, ht, hk, rfl, rfl⟩, hS.F ht9⟩) hS.2.2 dL_driver_20
    exact fun q hq => by cases hq
  · intro H locs w1 v hP hD hS ht hk h9
    exact h9.elim
set_option maxRecDepth 100000 in
set_option maxHeartbeats 4000000 in
theorem wm_do (l : Launch) (D : va_G) (cy : Nat → ClassId) (hst : l.stackTraces = false) {ad τ : List Nat} {w : va_W} (sz oa : Nat) (f : Nat → Int64) (hs : vi_s1 vSG τ) (ht : vi_tw vK cy (fun _ => True) ad τ w) {x0 q0 : Nat} (hr0 : τ[q0]? = some 0) (hr1 : ad[q0]? = some x0) {vs : List Value} (hw0 : w[q0]? = some (x0, .inr (14, vs))) (x1 : Int32) (x2 : Int32) {dc : Int32} (hv4 : vs[4]? = some (.int dc)) (hok : (0 ≤ x1.toInt ∧ x1.toInt ≤ 9) ∧ (-1 ≤ x2.toInt ∧ x2.toInt ≤ 9)) (hd0 : 0 ≤ dc.toInt) (hd8 : dc.toInt < 8) : vw_MG l D cy vK ad τ oa (.inl (cy 2, 1, .inr (.inl f))) w sz [(14, 4, 0)] (fun k w1 o1 => k = 0 ∧ o1 = .inl (cy 2, 1, .inr (.inl (vp_updL f 0 dc.toInt64))) ∧ w1[q0]? = some (x0, .inr (14, vs.set 4 (.int (dc + 1))))) yL_driver (Cond.codeWith yL_driver cL_driver 5 (some .int) [(0, 10, 13, 13), (0, 10, 17, 15)] :: lWall) 7 1 116 [.ref x0, .int x1, .int x2, .ref oa] := by
  refine wr_ofW (cc := cL_driver) (maxL := 5) (ret := (some .int)) (hh := [(0, 10, 13, 13), (0, 10, 17, 15)]) (lv := [(0, .ref x0), (1, .int x1), (2, .int x2), (3, .ref oa)]) (by decide) rfl (Nat.le_of_ble_eq_true rfl) rfl ?_
  intro p e s m below meth c ls hx hb hr hml hown hlocks htab hts hv hl
  have hown : s.vm.findClass RL = some m.cls := hown
  obtain ⟨⟨⟨hsz, hP, hD0⟩, hK, hN⟩, hT⟩ := hv
  subst hsz
  have hD := hD0.self (sz := s.heap.size)
  generalize hAe : va_A ((oa, .inl (cy 2, 1, .inr (.inl f))) :: w) s.heap.size = A at hD hT ⊢
  have hA : ∀ q : Nat, s.heap.size ≤ q → A q := fun q h => by rw [← hAe]; exact Or.inr h
  have hS : va_S A s.heap s.heap [] := va_S.rf
  have hP : va_P D vwCl ([(oa, .inl (cy 2, 1, .inr (.inl f)))] ++ w) s.heap := hP
  have hD : va_D A ([(oa, .inl (cy 2, 1, .inr (.inl f)))] ++ w) := hD
  have S : CallFix p m c cL_driver 5 s _ (_ :: lWall) RL := ⟨hx, hb, hml, hown, hts⟩
  refine lv_aload_n hx hb dL_driver_0 rfl (lv_at hl 3 rfl) ?_
  refine lv_iconst (v := 0) hx hb dL_driver_1 (by decide) ?_
  refine lv_aload_n hx hb dL_driver_2 rfl (lv_at hl 0 rfl) ?_
  refine lv_iload_n hx hb dL_driver_3 rfl (lv_at hl 1 rfl) ?_
  refine lv_iload_n hx hb dL_driver_4 rfl (lv_at hl 2 rfl) ?_
  refine vi_catchG (wr := [(oa, .inl (cy 2, 1, .inr (.inl f)))]) (b := x0) (As := [.int x1, .int x2]) (rest := [.int 0, .ref oa]) S (dk_ok l D cy hst ht hr0 hw0 hv4 hok hd0 hd8 s.heap.size) (cwV 2 S.2.2.2.2 (lgV (lm_ _ (List.mem_of_getElem? (i := 65) rfl)) (lm_ _ (List.mem_of_getElem? (i := 66) rfl)) (lm_ _ (List.mem_of_getElem? (i := 67) rfl)) (lv_ _ (vm_4 _ (List.mem_of_getElem? (i := 20) rfl))) (lv_ _ (vm_7 _ (List.mem_of_getElem? (i := 10) rfl)))) rfl rfl rfl ⟨rfl, by decide, by decide, by decide +kernel⟩ ⟨Nat.le_of_ble_eq_true rfl, Nat.le_of_ble_eq_true rfl⟩) rfl (va_recv hK hP.right (ci := 14) rfl hw0) hK hN hT hP hD hS hA ht hl.1 rfl (Nat.le_of_ble_eq_true rfl) dL_driver_5 ⟨Nat.le_of_ble_eq_true rfl, Nat.le_of_ble_eq_true rfl⟩ ?_ ?_
  · exact fun q hq => by cases hq
  · intro H locs w1 v hP hD hS ht hk h9
    obtain ⟨rfl, h8⟩ := h9
    refine lv_i2l (v := dc.toInt64) hx hb dL_driver_8 rfl ?_
    refine va_last hx hb hK hP hD hS 0 2 rfl rfl (by unfold vp_in; decide) dL_driver_9 (fun H locs hP hD hS => ?_)
    rw [my_upd0] at hP
    have hP : va_P D vwCl ((oa, .inl (cy 2, 1, .inr (.inl (vp_updL f 0 dc.toInt64)))) :: w1) H := hP
    refine lv_goto (tgt := 21) hx hb dL_driver_10 (by decide) ?_
    refine lv_iconst (v := 0) hx hb dL_driver_21 (by decide) ?_
    exact W.iret hx hb hr (fun t ht9 _ => ⟨⟨_, w1, _, rfl, by rw [ht9]; exact hP, ht, hk, rfl, rfl, h8⟩, hS.F ht9⟩) hS.2.2 dL_driver_22
end VWD
