section CSX

set_option maxRecDepth 100000 in
set_option maxHeartbeats 4000000 in
theorem ws_make (l : Launch) (D : va_G) (cy : Nat → ClassId) (hst : l.stackTraces = false) {ad τ : List Nat} {w : va_W} {B : Int} (sz oa : Nat) (f : Nat → Int64) (hs : vi_s1 vSG τ) {x0 q0 : Nat} (hr1 : ad[q0]? = some x0) (hC : CS cy ad τ x0 w B) (x1 : Int32) (hx1 : 0 ≤ x1.toInt ∧ x1.toInt ≤ 65535) (x2 : Int32) (x3 : Int32) (x4 : Int32) (hx4 : 0 ≤ x4.toInt ∧ x4.toInt ≤ 1) (x5 : Int32) : vw_MS l D cy ad τ oa x0 f w B sz yL_make (Cond.codeWith yL_make cL_make 8 (some .int) [(0, 16, 19, 13), (0, 16, 23, 15)] :: lWall) 7 1 116 [.ref x0, .int x1, .int x2, .int x3, .int x4, .int x5, .ref oa] := by
  obtain ⟨Y, σ, rfl, rfl, hV, hI⟩ := hC
  have hw0 : (cwL cy ad σ)[q0]? = some (yX Y, .inr (14, sgVs σ (yX Y) 0 (sgC 14))) := (cwL_at hr1).trans (by rw [sgE_ob (ci := 14) hV.2.1.1 (by decide)])
  refine wr_ofW (cc := cL_make) (maxL := 8) (ret := (some .int)) (hh := [(0, 16, 19, 13), (0, 16, 23, 15)]) (lv := [(0, .ref (yX Y)), (1, .int x1), (2, .int x2), (3, .int x3), (4, .int x4), (5, .int x5), (6, .ref oa)]) (by decide) rfl (Nat.le_of_ble_eq_true rfl) rfl ?_
  intro p e s m below meth c ls hx hb hr hml hown hlocks htab hts hv hl
  have hown : s.vm.findClass RL = some m.cls := hown
  obtain ⟨⟨⟨hsz, hP, hD0⟩, hK, hN⟩, hT⟩ := hv
  subst hsz
  have hD := hD0.self (sz := s.heap.size)
  generalize hAe : va_A ((oa, .inl (cy 2, 1, .inr (.inl f))) :: cwL cy ad σ) s.heap.size = A at hD hT ⊢
  have hA : ∀ q : Nat, s.heap.size ≤ q → A q := fun q h => by rw [← hAe]; exact Or.inr h
  have hS : va_S A s.heap s.heap [] := va_S.rf
  have hP : va_P D vwCl ([(oa, .inl (cy 2, 1, .inr (.inl f)))] ++ cwL cy ad σ) s.heap := hP
  have hD : va_D A ([(oa, .inl (cy 2, 1, .inr (.inl f)))] ++ cwL cy ad σ) := hD
  have S : CallFix p m c cL_make 8 s _ (_ :: lWall) RL := ⟨hx, hb, hml, hown, hts⟩
  refine lv_aload hx hb dL_make_0 (lv_at hl 6 rfl) ?_
  refine lv_iconst (v := 0) hx hb dL_make_2 (by decide) ?_
  refine lv_aload_n hx hb dL_make_3 rfl (lv_at hl 0 rfl) ?_
  refine lv_iload_n hx hb dL_make_4 rfl (lv_at hl 1 rfl) ?_
  refine lv_iload_n hx hb dL_make_5 rfl (lv_at hl 2 rfl) ?_
  refine lv_iload_n hx hb dL_make_6 rfl (lv_at hl 3 rfl) ?_
  refine lv_iload hx hb dL_make_7 (lv_at hl 4 rfl) ?_
  refine lv_iload hx hb dL_make_9 (lv_at hl 5 rfl) ?_
  refine cl_catch (wr := [(oa, .inl (cy 2, 1, .inr (.inl f)))]) (b := yX Y) (As := [.int x1, .int x2, .int x3, .int x4, .int x5]) (rest := [.int 0, .ref oa]) S hV hI (k_make l D cy hst hs hV hI x1 x2 x3 x4 x5 (show sgF 1 x1 from hx1) (show sgF 2 x4 from hx4) _) (cwV 5 S.2.2.2.2 (lgV (lm_ _ (List.mem_of_getElem? (i := 1) rfl)) (lm_ _ (List.mem_of_getElem? (i := 2) rfl)) (lm_ _ (List.mem_of_getElem? (i := 3) rfl)) (lv_ _ (vm_4 _ (List.mem_of_getElem? (i := 20) rfl))) (lv_ _ (vm_4 _ (List.mem_of_getElem? (i := 13) rfl)))) rfl rfl rfl ⟨rfl, by decide, by decide, by decide +kernel⟩ ⟨Nat.le_of_ble_eq_true rfl, Nat.le_of_ble_eq_true rfl⟩) rfl (va_recv hK hP.right (ci := 14) rfl hw0) hK hN hT hP hD hS hA hl.1 rfl (Nat.le_of_ble_eq_true rfl) dL_make_11 ⟨Nat.le_of_ble_eq_true rfl, Nat.le_of_ble_eq_true rfl⟩ ?_ ?_
  · refine List.forall_mem_cons.mpr ⟨⟨[], ⟨0, 16, 19, 13⟩, [⟨0, 16, 23, 15⟩], htab, (fun _ h => absurd h List.not_mem_nil), by decide, by decide, hts _ (List.mem_cons_of_mem _ (lm_ _ (List.mem_of_getElem? (i := 0) rfl))), va_Nw.use rfl (hT.2.2.1 "java/lang/IllegalArgumentException" (by decide)), fun qx H locs w1 hP hD hS ht hC1 => ?_⟩, ?_⟩
    · refine lv_astore (lv' := [(7, .ref qx), (0, .ref (yX Y)), (1, .int x1), (2, .int x2), (3, .int x3), (4, .int x4), (5, .int x5), (6, .ref oa)]) hx hb dL_make_19 hl (by decide) rfl (fun ls hl => ?_)
      refine lv_iconst (v := 1) hx hb dL_make_21 (by decide) ?_
      exact W.iret hx hb hr (fun t ht9 _ => ⟨⟨_, w1, _, rfl, by rw [ht9]; exact hP, ht, hC1⟩, hS.F ht9⟩) hS.2.2 dL_make_22
    refine List.forall_mem_cons.mpr ⟨⟨[⟨0, 16, 19, 13⟩], ⟨0, 16, 23, 15⟩, [], htab, (by intro z hz; simp only [List.mem_cons, List.not_mem_nil, or_false] at hz; subst hz; exact Or.inr ⟨by decide, "java/lang/IllegalArgumentException", hts _ (List.mem_cons_of_mem _ (lm_ _ (List.mem_of_getElem? (i := 0) rfl))), hT.2.2.2.2 "java/lang/IllegalStateException" (by decide) "java/lang/IllegalArgumentException" (by decide) (by decide)⟩), by decide, by decide, hts _ (List.mem_cons_of_mem _ (lm_ _ (List.mem_of_getElem? (i := 170) rfl))), va_Nw.use rfl (hT.2.2.1 "java/lang/IllegalStateException" (by decide)), fun qx H locs w1 hP hD hS ht hC1 => ?_⟩, ?_⟩
    · refine lv_astore (lv' := [(7, .ref qx), (0, .ref (yX Y)), (1, .int x1), (2, .int x2), (3, .int x3), (4, .int x4), (5, .int x5), (6, .ref oa)]) hx hb dL_make_23 hl (by decide) rfl (fun ls hl => ?_)
      refine lv_iconst (v := 2) hx hb dL_make_25 (by decide) ?_
      exact W.iret hx hb hr (fun t ht9 _ => ⟨⟨_, w1, _, rfl, by rw [ht9]; exact hP, ht, hC1⟩, hS.F ht9⟩) hS.2.2 dL_make_26
    exact fun q hq => by cases hq
  · intro H locs w1 y hP hD hS ht hC1
    refine lv_i2l (v := y.toInt64) hx hb dL_make_14 rfl ?_
    refine va_last hx hb hK hP hD hS 0 2 rfl rfl (by unfold vp_in; decide) dL_make_15 (fun H locs hP hD hS => ?_)
    rw [my_upd0] at hP
    have hP : va_P D vwCl ((oa, .inl (cy 2, 1, .inr (.inl (vp_updL f 0 y.toInt64)))) :: w1) H := hP
    refine lv_goto (tgt := 27) hx hb dL_make_16 (by decide) ?_
    refine lv_iconst (v := 0) hx hb dL_make_27 (by decide) ?_
    exact W.iret hx hb hr (fun t ht9 _ => ⟨⟨_, w1, _, rfl, by rw [ht9]; exact hP, ht, hC1⟩, hS.F ht9⟩) hS.2.2 dL_make_28


set_option maxRecDepth 100000 in
set_option maxHeartbeats 4000000 in
theorem ws_endpoint (l : Launch) (D : va_G) (cy : Nat → ClassId) (hst : l.stackTraces = false) {ad τ : List Nat} {w : va_W} {B : Int} (sz oa : Nat) (f : Nat → Int64) (hs : vi_s1 vSG τ) {x0 q0 : Nat} (hr1 : ad[q0]? = some x0) (hC : CS cy ad τ x0 w B) (x1 : Int32) (x2 : Int32) (x3 : Int32) (hx3 : 0 ≤ x3.toInt ∧ x3.toInt ≤ 1) (x4 : Int32) : vw_MS l D cy ad τ oa x0 f w B sz yL_endpoint (Cond.codeWith yL_endpoint cL_endpoint 7 (some .int) [(0, 14, 17, 21), (0, 14, 21, 13), (0, 14, 25, 23)] :: lWall) 8 2 137 [.ref x0, .int x1, .int x2, .int x3, .int x4, .ref oa] := by
  obtain ⟨Y, σ, rfl, rfl, hV, hI⟩ := hC
  have hw0 : (cwL cy ad σ)[q0]? = some (yX Y, .inr (14, sgVs σ (yX Y) 0 (sgC 14))) := (cwL_at hr1).trans (by rw [sgE_ob (ci := 14) hV.2.1.1 (by decide)])
  refine wr_ofW (cc := cL_endpoint) (maxL := 7) (ret := (some .int)) (hh := [(0, 14, 17, 21), (0, 14, 21, 13), (0, 14, 25, 23)]) (lv := [(0, .ref (yX Y)), (1, .int x1), (2, .int x2), (3, .int x3), (4, .int x4), (5, .ref oa)]) (by decide) rfl (Nat.le_of_ble_eq_true rfl) rfl ?_
  intro p e s m below meth c ls hx hb hr hml hown hlocks htab hts hv hl
  have hown : s.vm.findClass RL = some m.cls := hown
  obtain ⟨⟨⟨hsz, hP, hD0⟩, hK, hN⟩, hT⟩ := hv
  subst hsz
  have hD := hD0.self (sz := s.heap.size)
  generalize hAe : va_A ((oa, .inl (cy 2, 1, .inr (.inl f))) :: cwL cy ad σ) s.heap.size = A at hD hT ⊢
  have hA : ∀ q : Nat, s.heap.size ≤ q → A q := fun q h => by rw [← hAe]; exact Or.inr h
  have hS : va_S A s.heap s.heap [] := va_S.rf
  have hP : va_P D vwCl ([(oa, .inl (cy 2, 1, .inr (.inl f)))] ++ cwL cy ad σ) s.heap := hP
  have hD : va_D A ([(oa, .inl (cy 2, 1, .inr (.inl f)))] ++ cwL cy ad σ) := hD
  have S : CallFix p m c cL_endpoint 7 s _ (_ :: lWall) RL := ⟨hx, hb, hml, hown, hts⟩
  refine lv_aload hx hb dL_endpoint_0 (lv_at hl 5 rfl) ?_
  refine lv_iconst (v := 0) hx hb dL_endpoint_2 (by decide) ?_
  refine lv_aload_n hx hb dL_endpoint_3 rfl (lv_at hl 0 rfl) ?_
  refine lv_iload_n hx hb dL_endpoint_4 rfl (lv_at hl 1 rfl) ?_
  refine lv_iload_n hx hb dL_endpoint_5 rfl (lv_at hl 2 rfl) ?_
  refine lv_iload_n hx hb dL_endpoint_6 rfl (lv_at hl 3 rfl) ?_
  refine lv_iload hx hb dL_endpoint_7 (lv_at hl 4 rfl) ?_
  refine cl_catch (wr := [(oa, .inl (cy 2, 1, .inr (.inl f)))]) (b := yX Y) (As := [.int x1, .int x2, .int x3, .int x4]) (rest := [.int 0, .ref oa]) S hV hI (k_endp l D cy hst hs hV hI x1 x2 x3 x4 (show sgF 2 x3 from hx3) _) (cwV 4 S.2.2.2.2 (lgV (lm_ _ (List.mem_of_getElem? (i := 6) rfl)) (lm_ _ (List.mem_of_getElem? (i := 7) rfl)) (lm_ _ (List.mem_of_getElem? (i := 8) rfl)) (lv_ _ (vm_4 _ (List.mem_of_getElem? (i := 20) rfl))) (lv_ _ (vm_4 _ (List.mem_of_getElem? (i := 26) rfl)))) rfl rfl rfl ⟨rfl, by decide, by decide, by decide +kernel⟩ ⟨Nat.le_of_ble_eq_true rfl, Nat.le_of_ble_eq_true rfl⟩) rfl (va_recv hK hP.right (ci := 14) rfl hw0) hK hN hT hP hD hS hA hl.1 rfl (Nat.le_of_ble_eq_true rfl) dL_endpoint_9 ⟨Nat.le_of_ble_eq_true rfl, Nat.le_of_ble_eq_true rfl⟩ ?_ ?_
  · refine List.forall_mem_cons.mpr ⟨⟨[⟨0, 14, 17, 21⟩], ⟨0, 14, 21, 13⟩, [⟨0, 14, 25, 23⟩], htab, (by intro z hz; simp only [List.mem_cons, List.not_mem_nil, or_false] at hz; subst hz; exact Or.inr ⟨by decide, "java/lang/IndexOutOfBoundsException", hts _ (List.mem_cons_of_mem _ (lm_ _ (List.mem_of_getElem? (i := 5) rfl))), hT.2.2.2.2 "java/lang/IllegalArgumentException" (by decide) "java/lang/IndexOutOfBoundsException" (by decide) (by decide)⟩), by decide, by decide, hts _ (List.mem_cons_of_mem _ (lm_ _ (List.mem_of_getElem? (i := 0) rfl))), va_Nw.use rfl (hT.2.2.1 "java/lang/IllegalArgumentException" (by decide)), fun qx H locs w1 hP hD hS ht hC1 => ?_⟩, ?_⟩
    · refine lv_astore (lv' := [(6, .ref qx), (0, .ref (yX Y)), (1, .int x1), (2, .int x2), (3, .int x3), (4, .int x4), (5, .ref oa)]) hx hb dL_endpoint_21 hl (by decide) rfl (fun ls hl => ?_)
      refine lv_iconst (v := 2) hx hb dL_endpoint_23 (by decide) ?_
      exact W.iret hx hb hr (fun t ht9 _ => ⟨⟨_, w1, _, rfl, by rw [ht9]; exact hP, ht, hC1⟩, hS.F ht9⟩) hS.2.2 dL_endpoint_24
    refine List.forall_mem_cons.mpr ⟨⟨[⟨0, 14, 17, 21⟩, ⟨0, 14, 21, 13⟩], ⟨0, 14, 25, 23⟩, [], htab, (by intro z hz; simp only [List.mem_cons, List.not_mem_nil, or_false] at hz; rcases hz with rfl | rfl <;> first | exact Or.inr ⟨by decide, "java/lang/IndexOutOfBoundsException", hts _ (List.mem_cons_of_mem _ (lm_ _ (List.mem_of_getElem? (i := 5) rfl))), hT.2.2.2.2 "java/lang/UnsupportedOperationException" (by decide) "java/lang/IndexOutOfBoundsException" (by decide) (by decide)⟩ | exact Or.inr ⟨by decide, "java/lang/IllegalArgumentException", hts _ (List.mem_cons_of_mem _ (lm_ _ (List.mem_of_getElem? (i := 0) rfl))), hT.2.2.2.2 "java/lang/UnsupportedOperationException" (by decide) "java/lang/IllegalArgumentException" (by decide) (by decide)⟩), by decide, by decide, hts _ (List.mem_cons_of_mem _ (lm_ _ (List.mem_of_getElem? (i := 171) rfl))), va_Nw.use rfl (hT.2.2.1 "java/lang/UnsupportedOperationException" (by decide)), fun qx H locs w1 hP hD hS ht hC1 => ?_⟩, ?_⟩
    · refine lv_astore (lv' := [(6, .ref qx), (0, .ref (yX Y)), (1, .int x1), (2, .int x2), (3, .int x3), (4, .int x4), (5, .ref oa)]) hx hb dL_endpoint_25 hl (by decide) rfl (fun ls hl => ?_)
      refine lv_iconst (v := 3) hx hb dL_endpoint_27 (by decide) ?_
      exact W.iret hx hb hr (fun t ht9 _ => ⟨⟨_, w1, _, rfl, by rw [ht9]; exact hP, ht, hC1⟩, hS.F ht9⟩) hS.2.2 dL_endpoint_28
    refine List.forall_mem_cons.mpr ⟨⟨[], ⟨0, 14, 17, 21⟩, [⟨0, 14, 21, 13⟩, ⟨0, 14, 25, 23⟩], htab, (fun _ h => absurd h List.not_mem_nil), by decide, by decide, hts _ (List.mem_cons_of_mem _ (lm_ _ (List.mem_of_getElem? (i := 5) rfl))), va_Nw.use rfl (hT.2.2.1 "java/lang/IndexOutOfBoundsException" (by decide)), fun qx H locs w1 hP hD hS ht hC1 => ?_⟩, ?_⟩
    · refine lv_astore (lv' := [(6, .ref qx), (0, .ref (yX Y)), (1, .int x1), (2, .int x2), (3, .int x3), (4, .int x4), (5, .ref oa)]) hx hb dL_endpoint_17 hl (by decide) rfl (fun ls hl => ?_)
      refine lv_iconst (v := 1) hx hb dL_endpoint_19 (by decide) ?_
      exact W.iret hx hb hr (fun t ht9 _ => ⟨⟨_, w1, _, rfl, by rw [ht9]; exact hP, ht, hC1⟩, hS.F ht9⟩) hS.2.2 dL_endpoint_20
    exact fun q hq => by cases hq
  · intro H locs w1 y hP hD hS ht hC1
    refine lv_i2l (v := y.toInt64) hx hb dL_endpoint_12 rfl ?_
    refine va_last hx hb hK hP hD hS 0 2 rfl rfl (by unfold vp_in; decide) dL_endpoint_13 (fun H locs hP hD hS => ?_)
    rw [my_upd0] at hP
    have hP : va_P D vwCl ((oa, .inl (cy 2, 1, .inr (.inl (vp_updL f 0 y.toInt64)))) :: w1) H := hP
    refine lv_goto (tgt := 29) hx hb dL_endpoint_14 (by decide) ?_
    refine lv_iconst (v := 0) hx hb dL_endpoint_29 (by decide) ?_
    exact W.iret hx hb hr (fun t ht9 _ => ⟨⟨_, w1, _, rfl, by rw [ht9]; exact hP, ht, hC1⟩, hS.F ht9⟩) hS.2.2 dL_endpoint_30


set_option maxRecDepth 100000 in
set_option maxHeartbeats 4000000 in
theorem ws_plug (l : Launch) (D : va_G) (cy : Nat → ClassId) (hst : l.stackTraces = false) {ad τ : List Nat} {w : va_W} {B : Int} (sz oa : Nat) (f : Nat → Int64) (hs : vi_s1 vSG τ) {x0 q0 : Nat} (hr1 : ad[q0]? = some x0) (hC : CS cy ad τ x0 w B) (x1 : Int32) (x2 : Int32) (x3 : Int32) : vw_MS l D cy ad τ oa x0 f w B sz yL_plug (Cond.codeWith yL_plug cL_plug 6 (some .int) [(0, 12, 15, 21), (0, 12, 19, 23)] :: lWall) 8 3 136 [.ref x0, .int x1, .int x2, .int x3, .ref oa] := by
  obtain ⟨Y, σ, rfl, rfl, hV, hI⟩ := hC
  have hw0 : (cwL cy ad σ)[q0]? = some (yX Y, .inr (14, sgVs σ (yX Y) 0 (sgC 14))) := (cwL_at hr1).trans (by rw [sgE_ob (ci := 14) hV.2.1.1 (by decide)])
  refine wr_ofW (cc := cL_plug) (maxL := 6) (ret := (some .int)) (hh := [(0, 12, 15, 21), (0, 12, 19, 23)]) (lv := [(0, .ref (yX Y)), (1, .int x1), (2, .int x2), (3, .int x3), (4, .ref oa)]) (by decide) rfl (Nat.le_of_ble_eq_true rfl) rfl ?_
  intro p e s m below meth c ls hx hb hr hml hown hlocks htab hts hv hl
  have hown : s.vm.findClass RL = some m.cls := hown
  obtain ⟨⟨⟨hsz, hP, hD0⟩, hK, hN⟩, hT⟩ := hv
  subst hsz
  have hD := hD0.self (sz := s.heap.size)
  generalize hAe : va_A ((oa, .inl (cy 2, 1, .inr (.inl f))) :: cwL cy ad σ) s.heap.size = A at hD hT ⊢
  have hA : ∀ q : Nat, s.heap.size ≤ q → A q := fun q h => by rw [← hAe]; exact Or.inr h
  have hS : va_S A s.heap s.heap [] := va_S.rf
  have hP : va_P D vwCl ([(oa, .inl (cy 2, 1, .inr (.inl f)))] ++ cwL cy ad σ) s.heap := hP
  have hD : va_D A ([(oa, .inl (cy 2, 1, .inr (.inl f)))] ++ cwL cy ad σ) := hD
  have S : CallFix p m c cL_plug 6 s _ (_ :: lWall) RL := ⟨hx, hb, hml, hown, hts⟩
  refine lv_aload hx hb dL_plug_0 (lv_at hl 4 rfl) ?_
  refine lv_iconst (v := 0) hx hb dL_plug_2 (by decide) ?_
  refine lv_aload_n hx hb dL_plug_3 rfl (lv_at hl 0 rfl) ?_
  refine lv_iload_n hx hb dL_plug_4 rfl (lv_at hl 1 rfl) ?_
  refine lv_iload_n hx hb dL_plug_5 rfl (lv_at hl 2 rfl) ?_
  refine lv_iload_n hx hb dL_plug_6 rfl (lv_at hl 3 rfl) ?_
  refine cl_catch (wr := [(oa, .inl (cy 2, 1, .inr (.inl f)))]) (b := yX Y) (As := [.int x1, .int x2, .int x3]) (rest := [.int 0, .ref oa]) S hV hI (k_plug l D cy hst hs hV hI x1 x2 x3  _) (cwV 3 S.2.2.2.2 (lgV (lm_ _ (List.mem_of_getElem? (i := 11) rfl)) (lm_ _ (List.mem_of_getElem? (i := 12) rfl)) (lm_ _ (List.mem_of_getElem? (i := 13) rfl)) (lv_ _ (vm_4 _ (List.mem_of_getElem? (i := 20) rfl))) (lv_ _ (vm_4 _ (List.mem_of_getElem? (i := 37) rfl)))) rfl rfl rfl ⟨rfl, by decide, by decide, by decide +kernel⟩ ⟨Nat.le_of_ble_eq_true rfl, Nat.le_of_ble_eq_true rfl⟩) rfl (va_recv hK hP.right (ci := 14) rfl hw0) hK hN hT hP hD hS hA hl.1 rfl (Nat.le_of_ble_eq_true rfl) dL_plug_7 ⟨Nat.le_of_ble_eq_true rfl, Nat.le_of_ble_eq_true rfl⟩ ?_ ?_
  · refine List.forall_mem_cons.mpr ⟨⟨[], ⟨0, 12, 15, 21⟩, [⟨0, 12, 19, 23⟩], htab, (fun _ h => absurd h List.not_mem_nil), by decide, by decide, hts _ (List.mem_cons_of_mem _ (lm_ _ (List.mem_of_getElem? (i := 5) rfl))), va_Nw.use rfl (hT.2.2.1 "java/lang/IndexOutOfBoundsException" (by decide)), fun qx H locs w1 hP hD hS ht hC1 => ?_⟩, ?_⟩
    · refine lv_astore (lv' := [(5, .ref qx), (0, .ref (yX Y)), (1, .int x1), (2, .int x2), (3, .int x3), (4, .ref oa)]) hx hb dL_plug_15 hl (by decide) rfl (fun ls hl => ?_)
      refine lv_iconst (v := 1) hx hb dL_plug_17 (by decide) ?_
      exact W.iret hx hb hr (fun t ht9 _ => ⟨⟨_, w1, _, rfl, by rw [ht9]; exact hP, ht, hC1⟩, hS.F ht9⟩) hS.2.2 dL_plug_18
    refine List.forall_mem_cons.mpr ⟨⟨[⟨0, 12, 15, 21⟩], ⟨0, 12, 19, 23⟩, [], htab, (by intro z hz; simp only [List.mem_cons, List.not_mem_nil, or_false] at hz; subst hz; exact Or.inr ⟨by decide, "java/lang/IndexOutOfBoundsException", hts _ (List.mem_cons_of_mem _ (lm_ _ (List.mem_of_getElem? (i := 5) rfl))), hT.2.2.2.2 "java/lang/UnsupportedOperationException" (by decide) "java/lang/IndexOutOfBoundsException" (by decide) (by decide)⟩), by decide, by decide, hts _ (List.mem_cons_of_mem _ (lm_ _ (List.mem_of_getElem? (i := 171) rfl))), va_Nw.use rfl (hT.2.2.1 "java/lang/UnsupportedOperationException" (by decide)), fun qx H locs w1 hP hD hS ht hC1 => ?_⟩, ?_⟩
    · refine lv_astore (lv' := [(5, .ref qx), (0, .ref (yX Y)), (1, .int x1), (2, .int x2), (3, .int x3), (4, .ref oa)]) hx hb dL_plug_19 hl (by decide) rfl (fun ls hl => ?_)
      refine lv_iconst (v := 2) hx hb dL_plug_21 (by decide) ?_
      exact W.iret hx hb hr (fun t ht9 _ => ⟨⟨_, w1, _, rfl, by rw [ht9]; exact hP, ht, hC1⟩, hS.F ht9⟩) hS.2.2 dL_plug_22
    exact fun q hq => by cases hq
  · intro H locs w1 y hP hD hS ht hC1
    refine lv_i2l (v := y.toInt64) hx hb dL_plug_10 rfl ?_
    refine va_last hx hb hK hP hD hS 0 2 rfl rfl (by unfold vp_in; decide) dL_plug_11 (fun H locs hP hD hS => ?_)
    rw [my_upd0] at hP
    have hP : va_P D vwCl ((oa, .inl (cy 2, 1, .inr (.inl (vp_updL f 0 y.toInt64)))) :: w1) H := hP
    refine lv_goto (tgt := 23) hx hb dL_plug_12 (by decide) ?_
    refine lv_iconst (v := 0) hx hb dL_plug_23 (by decide) ?_
    exact W.iret hx hb hr (fun t ht9 _ => ⟨⟨_, w1, _, rfl, by rw [ht9]; exact hP, ht, hC1⟩, hS.F ht9⟩) hS.2.2 dL_plug_24


set_option maxRecDepth 100000 in
set_option maxHeartbeats 4000000 in
theorem ws_unplug (l : Launch) (D : va_G) (cy : Nat → ClassId) (hst : l.stackTraces = false) {ad τ : List Nat} {w : va_W} {B : Int} (sz oa : Nat) (f : Nat → Int64) (hs : vi_s1 vSG τ) {x0 q0 : Nat} (hr1 : ad[q0]? = some x0) (hC : CS cy ad τ x0 w B) (x1 : Int32) : vw_MS l D cy ad τ oa x0 f w B sz yL_unplug (Cond.codeWith yL_unplug cL_unplug 4 (some .int) [(0, 9, 12, 21), (0, 9, 15, 23)] :: lWall) 9 3 154 [.ref x0, .int x1, .ref oa] := by
  obtain ⟨Y, σ, rfl, rfl, hV, hI⟩ := hC
  have hw0 : (cwL cy ad σ)[q0]? = some (yX Y, .inr (14, sgVs σ (yX Y) 0 (sgC 14))) := (cwL_at hr1).trans (by rw [sgE_ob (ci := 14) hV.2.1.1 (by decide)])
  refine wr_ofW (cc := cL_unplug) (maxL := 4) (ret := (some .int)) (hh := [(0, 9, 12, 21), (0, 9, 15, 23)]) (lv := [(0, .ref (yX Y)), (1, .int x1), (2, .ref oa)]) (by decide) rfl (Nat.le_of_ble_eq_true rfl) rfl ?_
  intro p e s m below meth c ls hx hb hr hml hown hlocks htab hts hv hl
  have hown : s.vm.findClass RL = some m.cls := hown
  obtain ⟨⟨⟨hsz, hP, hD0⟩, hK, hN⟩, hT⟩ := hv
  subst hsz
  have hD := hD0.self (sz := s.heap.size)
  generalize hAe : va_A ((oa, .inl (cy 2, 1, .inr (.inl f))) :: cwL cy ad σ) s.heap.size = A at hD hT ⊢
  have hA : ∀ q : Nat, s.heap.size ≤ q → A q := fun q h => by rw [← hAe]; exact Or.inr h
  have hS : va_S A s.heap s.heap [] := va_S.rf
  have hP : va_P D vwCl ([(oa, .inl (cy 2, 1, .inr (.inl f)))] ++ cwL cy ad σ) s.heap := hP
  have hD : va_D A ([(oa, .inl (cy 2, 1, .inr (.inl f)))] ++ cwL cy ad σ) := hD
  have S : CallFix p m c cL_unplug 4 s _ (_ :: lWall) RL := ⟨hx, hb, hml, hown, hts⟩
  refine lv_aload_n hx hb dL_unplug_0 rfl (lv_at hl 2 rfl) ?_
  refine lv_iconst (v := 0) hx hb dL_unplug_1 (by decide) ?_
  refine lv_aload_n hx hb dL_unplug_2 rfl (lv_at hl 0 rfl) ?_
  refine lv_iload_n hx hb dL_unplug_3 rfl (lv_at hl 1 rfl) ?_
  refine cl_catch (wr := [(oa, .inl (cy 2, 1, .inr (.inl f)))]) (b := yX Y) (As := [.int x1]) (rest := [.int 0, .ref oa]) S hV hI (k_unpl l D cy hst hs hV hI x1  _) (cwV 1 S.2.2.2.2 (lgV (lm_ _ (List.mem_of_getElem? (i := 16) rfl)) (lm_ _ (List.mem_of_getElem? (i := 17) rfl)) (lm_ _ (List.mem_of_getElem? (i := 18) rfl)) (lv_ _ (vm_4 _ (List.mem_of_getElem? (i := 20) rfl))) (lv_ _ (vm_6 _ (List.mem_of_getElem? (i := 6) rfl)))) rfl rfl rfl ⟨rfl, by decide, by decide, by decide +kernel⟩ ⟨Nat.le_of_ble_eq_true rfl, Nat.le_of_ble_eq_true rfl⟩) rfl (va_recv hK hP.right (ci := 14) rfl hw0) hK hN hT hP hD hS hA hl.1 rfl (Nat.le_of_ble_eq_true rfl) dL_unplug_4 ⟨Nat.le_of_ble_eq_true rfl, Nat.le_of_ble_eq_true rfl⟩ ?_ ?_
  · refine List.forall_mem_cons.mpr ⟨⟨[⟨0, 9, 12, 21⟩], ⟨0, 9, 15, 23⟩, [], htab, (by intro z hz; simp only [List.mem_cons, List.not_mem_nil, or_false] at hz; subst hz; exact Or.inr ⟨by decide, "java/lang/IndexOutOfBoundsException", hts _ (List.mem_cons_of_mem _ (lm_ _ (List.mem_of_getElem? (i := 5) rfl))), hT.2.2.2.2 "java/lang/UnsupportedOperationException" (by decide) "java/lang/IndexOutOfBoundsException" (by decide) (by decide)⟩), by decide, by decide, hts _ (List.mem_cons_of_mem _ (lm_ _ (List.mem_of_getElem? (i := 171) rfl))), va_Nw.use rfl (hT.2.2.1 "java/lang/UnsupportedOperationException" (by decide)), fun qx H locs w1 hP hD hS ht hC1 => ?_⟩, ?_⟩
    · refine lv_astore_n (lv' := [(3, .ref qx), (0, .ref (yX Y)), (1, .int x1), (2, .ref oa)]) hx hb dL_unplug_15 rfl hl (by decide) rfl (fun ls hl => ?_)
      refine lv_iconst (v := 2) hx hb dL_unplug_16 (by decide) ?_
      exact W.iret hx hb hr (fun t ht9 _ => ⟨⟨_, w1, _, rfl, by rw [ht9]; exact hP, ht, hC1⟩, hS.F ht9⟩) hS.2.2 dL_unplug_17
    refine List.forall_mem_cons.mpr ⟨⟨[], ⟨0, 9, 12, 21⟩, [⟨0, 9, 15, 23⟩], htab, (fun _ h => absurd h List.not_mem_nil), by decide, by decide, hts _ (List.mem_cons_of_mem _ (lm_ _ (List.mem_of_getElem? (i := 5) rfl))), va_Nw.use rfl (hT.2.2.1 "java/lang/IndexOutOfBoundsException" (by decide)), fun qx H locs w1 hP hD hS ht hC1 => ?_⟩, ?_⟩
    · refine lv_astore_n (lv' := [(3, .ref qx), (0, .ref (yX Y)), (1, .int x1), (2, .ref oa)]) hx hb dL_unplug_12 rfl hl (by decide) rfl (fun ls hl => ?_)
      refine lv_iconst (v := 1) hx hb dL_unplug_13 (by decide) ?_
      exact W.iret hx hb hr (fun t ht9 _ => ⟨⟨_, w1, _, rfl, by rw [ht9]; exact hP, ht, hC1⟩, hS.F ht9⟩) hS.2.2 dL_unplug_14
    exact fun q hq => by cases hq
  · intro H locs w1 y hP hD hS ht hC1
    refine lv_i2l (v := y.toInt64) hx hb dL_unplug_7 rfl ?_
    refine va_last hx hb hK hP hD hS 0 2 rfl rfl (by unfold vp_in; decide) dL_unplug_8 (fun H locs hP hD hS => ?_)
    rw [my_upd0] at hP
    have hP : va_P D vwCl ((oa, .inl (cy 2, 1, .inr (.inl (vp_updL f 0 y.toInt64)))) :: w1) H := hP
    refine lv_goto (tgt := 18) hx hb dL_unplug_9 (by decide) ?_
    refine lv_iconst (v := 0) hx hb dL_unplug_18 (by decide) ?_
    exact W.iret hx hb hr (fun t ht9 _ => ⟨⟨_, w1, _, rfl, by rw [ht9]; exact hP, ht, hC1⟩, hS.F ht9⟩) hS.2.2 dL_unplug_19


set_option maxRecDepth 100000 in
set_option maxHeartbeats 4000000 in
theorem ws_look (l : Launch) (D : va_G) (cy : Nat → ClassId) (hst : l.stackTraces = false) {ad τ : List Nat} {w : va_W} {B : Int} (sz oa : Nat) (f : Nat → Int64) (hs : vi_s1 vSG τ) {x0 q0 : Nat} (hr1 : ad[q0]? = some x0) (hC : CS cy ad τ x0 w B) : vw_MS l D cy ad τ oa x0 f w B sz yL_look (Cond.codeWith yL_look cL_look 3 (some .int) [(0, 8, 11, 56)] :: lWall) 7 1 144 [.ref x0, .ref oa] := by
  obtain ⟨Y, σ, rfl, rfl, hV, hI⟩ := hC
  have hw0 : (cwL cy ad σ)[q0]? = some (yX Y, .inr (14, sgVs σ (yX Y) 0 (sgC 14))) := (cwL_at hr1).trans (by rw [sgE_ob (ci := 14) hV.2.1.1 (by decide)])
  refine wr_ofW (cc := cL_look) (maxL := 3) (ret := (some .int)) (hh := [(0, 8, 11, 56)]) (lv := [(0, .ref (yX Y)), (1, .ref oa)]) (by decide) rfl (Nat.le_of_ble_eq_true rfl) rfl ?_
  intro p e s m below meth c ls hx hb hr hml hown hlocks htab hts hv hl
  have hown : s.vm.findClass RL = some m.cls := hown
  obtain ⟨⟨⟨hsz, hP, hD0⟩, hK, hN⟩, hT⟩ := hv
  subst hsz
  have hD := hD0.self (sz := s.heap.size)
  generalize hAe : va_A ((oa, .inl (cy 2, 1, .inr (.inl f))) :: cwL cy ad σ) s.heap.size = A at hD hT ⊢
  have hA : ∀ q : Nat, s.heap.size ≤ q → A q := fun q h => by rw [← hAe]; exact Or.inr h
  have hS : va_S A s.heap s.heap [] := va_S.rf
  have hP : va_P D vwCl ([(oa, .inl (cy 2, 1, .inr (.inl f)))] ++ cwL cy ad σ) s.heap := hP
  have hD : va_D A ([(oa, .inl (cy 2, 1, .inr (.inl f)))] ++ cwL cy ad σ) := hD
  have S : CallFix p m c cL_look 3 s _ (_ :: lWall) RL := ⟨hx, hb, hml, hown, hts⟩
  refine lv_aload_n hx hb dL_look_0 rfl (lv_at hl 1 rfl) ?_
  refine lv_iconst (v := 0) hx hb dL_look_1 (by decide) ?_
  refine lv_aload_n hx hb dL_look_2 rfl (lv_at hl 0 rfl) ?_
  refine cl_catch (wr := [(oa, .inl (cy 2, 1, .inr (.inl f)))]) (b := yX Y) (As := []) (rest := [.int 0, .ref oa]) S hV hI (k_look l D cy hst hs hV hI   _) (cwV 0 S.2.2.2.2 (lgV (lm_ _ (List.mem_of_getElem? (i := 48) rfl)) (lm_ _ (List.mem_of_getElem? (i := 49) rfl)) (lm_ _ (List.mem_of_getElem? (i := 50) rfl)) (lv_ _ (vm_4 _ (List.mem_of_getElem? (i := 20) rfl))) (lv_ _ (vm_7 _ (List.mem_of_getElem? (i := 9) rfl)))) rfl rfl rfl ⟨rfl, by decide, by decide, by decide +kernel⟩ ⟨Nat.le_of_ble_eq_true rfl, Nat.le_of_ble_eq_true rfl⟩) rfl (va_recv hK hP.right (ci := 14) rfl hw0) hK hN hT hP hD hS hA hl.1 rfl (Nat.le_of_ble_eq_true rfl) dL_look_3 ⟨Nat.le_of_ble_eq_true rfl, Nat.le_of_ble_eq_true rfl⟩ ?_ ?_
  · refine List.forall_mem_cons.mpr ⟨⟨[], ⟨0, 8, 11, 56⟩, [], htab, (fun _ h => absurd h List.not_mem_nil), by decide, by decide, hts _ (List.mem_cons_of_mem _ (lm_ _ (List.mem_of_getElem? (i := 47) rfl))), va_Nw.use rfl (hT.2.2.1 "java/util/NoSuchElementException" (by decide)), fun qx H locs w1 hP hD hS ht hC1 => ?_⟩, ?_⟩
    · refine lv_astore_n (lv' := [(2, .ref qx), (0, .ref (yX Y)), (1, .ref oa)]) hx hb dL_look_11 rfl hl (by decide) rfl (fun ls hl => ?_)
      refine lv_iconst (v := 1) hx hb dL_look_12 (by decide) ?_
      exact W.iret hx hb hr (fun t ht9 _ => ⟨⟨_, w1, _, rfl, by rw [ht9]; exact hP, ht, hC1⟩, hS.F ht9⟩) hS.2.2 dL_look_13
    exact fun q hq => by cases hq
  · intro H locs w1 y hP hD hS ht hC1
    refine lv_i2l (v := y.toInt64) hx hb dL_look_6 rfl ?_
    refine va_last hx hb hK hP hD hS 0 2 rfl rfl (by unfold vp_in; decide) dL_look_7 (fun H locs hP hD hS => ?_)
    rw [my_upd0] at hP
    have hP : va_P D vwCl ((oa, .inl (cy 2, 1, .inr (.inl (vp_updL f 0 y.toInt64)))) :: w1) H := hP
    refine lv_goto (tgt := 14) hx hb dL_look_8 (by decide) ?_
    refine lv_iconst (v := 0) hx hb dL_look_14 (by decide) ?_
    exact W.iret hx hb hr (fun t ht9 _ => ⟨⟨_, w1, _, rfl, by rw [ht9]; exact hP, ht, hC1⟩, hS.F ht9⟩) hS.2.2 dL_look_15


set_option maxRecDepth 100000 in
set_option maxHeartbeats 4000000 in
theorem ws_sleep (l : Launch) (D : va_G) (cy : Nat → ClassId) (hst : l.stackTraces = false) {ad τ : List Nat} {w : va_W} {B : Int} (sz oa : Nat) (f : Nat → Int64) (hs : vi_s1 vSG τ) {x0 q0 : Nat} (hr1 : ad[q0]? = some x0) (hC : CS cy ad τ x0 w B) (x1 : Int32) : vw_MS l D cy ad τ oa x0 f w B sz yL_sleep (Cond.codeWith yL_sleep cL_sleep 4 (some .int) [(0, 9, 12, 21), (0, 9, 15, 23)] :: lWall) 9 3 157 [.ref x0, .int x1, .ref oa] := by
  obtain ⟨Y, σ, rfl, rfl, hV, hI⟩ := hC
  have hw0 : (cwL cy ad σ)[q0]? = some (yX Y, .inr (14, sgVs σ (yX Y) 0 (sgC 14))) := (cwL_at hr1).trans (by rw [sgE_ob (ci := 14) hV.2.1.1 (by decide)])
  refine wr_ofW (cc := cL_sleep) (maxL := 4) (ret := (some .int)) (hh := [(0, 9, 12, 21), (0, 9, 15, 23)]) (lv := [(0, .ref (yX Y)), (1, .int x1), (2, .ref oa)]) (by decide) rfl (Nat.le_of_ble_eq_true rfl) rfl ?_
  intro p e s m below meth c ls hx hb hr hml hown hlocks htab hts hv hl
  have hown : s.vm.findClass RL = some m.cls := hown
  obtain ⟨⟨⟨hsz, hP, hD0⟩, hK, hN⟩, hT⟩ := hv
  subst hsz
  have hD := hD0.self (sz := s.heap.size)
  generalize hAe : va_A ((oa, .inl (cy 2, 1, .inr (.inl f))) :: cwL cy ad σ) s.heap.size = A at hD hT ⊢
  have hA : ∀ q : Nat, s.heap.size ≤ q → A q := fun q h => by rw [← hAe]; exact Or.inr h
  have hS : va_S A s.heap s.heap [] := va_S.rf
  have hP : va_P D vwCl ([(oa, .inl (cy 2, 1, .inr (.inl f)))] ++ cwL cy ad σ) s.heap := hP
  have hD : va_D A ([(oa, .inl (cy 2, 1, .inr (.inl f)))] ++ cwL cy ad σ) := hD
  have S : CallFix p m c cL_sleep 4 s _ (_ :: lWall) RL := ⟨hx, hb, hml, hown, hts⟩
  refine lv_aload_n hx hb dL_sleep_0 rfl (lv_at hl 2 rfl) ?_
  refine lv_iconst (v := 0) hx hb dL_sleep_1 (by decide) ?_
  refine lv_aload_n hx hb dL_sleep_2 rfl (lv_at hl 0 rfl) ?_
  refine lv_iload_n hx hb dL_sleep_3 rfl (lv_at hl 1 rfl) ?_
  refine cl_catch (wr := [(oa, .inl (cy 2, 1, .inr (.inl f)))]) (b := yX Y) (As := [.int x1]) (rest := [.int 0, .ref oa]) S hV hI (k_sleep l D cy hst hs hV hI x1  _) (cwV 1 S.2.2.2.2 (lgV (lm_ _ (List.mem_of_getElem? (i := 74) rfl)) (lm_ _ (List.mem_of_getElem? (i := 75) rfl)) (lm_ _ (List.mem_of_getElem? (i := 76) rfl)) (lv_ _ (vm_4 _ (List.mem_of_getElem? (i := 20) rfl))) (lv_ _ (vm_7 _ (List.mem_of_getElem? (i := 17) rfl)))) rfl rfl rfl ⟨rfl, by decide, by decide, by decide +kernel⟩ ⟨Nat.le_of_ble_eq_true rfl, Nat.le_of_ble_eq_true rfl⟩) rfl (va_recv hK hP.right (ci := 14) rfl hw0) hK hN hT hP hD hS hA hl.1 rfl (Nat.le_of_ble_eq_true rfl) dL_sleep_4 ⟨Nat.le_of_ble_eq_true rfl, Nat.le_of_ble_eq_true rfl⟩ ?_ ?_
  · refine List.forall_mem_cons.mpr ⟨⟨[⟨0, 9, 12, 21⟩], ⟨0, 9, 15, 23⟩, [], htab, (by intro z hz; simp only [List.mem_cons, List.not_mem_nil, or_false] at hz; subst hz; exact Or.inr ⟨by decide, "java/lang/IndexOutOfBoundsException", hts _ (List.mem_cons_of_mem _ (lm_ _ (List.mem_of_getElem? (i := 5) rfl))), hT.2.2.2.2 "java/lang/UnsupportedOperationException" (by decide) "java/lang/IndexOutOfBoundsException" (by decide) (by decide)⟩), by decide, by decide, hts _ (List.mem_cons_of_mem _ (lm_ _ (List.mem_of_getElem? (i := 171) rfl))), va_Nw.use rfl (hT.2.2.1 "java/lang/UnsupportedOperationException" (by decide)), fun qx H locs w1 hP hD hS ht hC1 => ?_⟩, ?_⟩
    · refine lv_astore_n (lv' := [(3, .ref qx), (0, .ref (yX Y)), (1, .int x1), (2, .ref oa)]) hx hb dL_sleep_15 rfl hl (by decide) rfl (fun ls hl => ?_)
      refine lv_iconst (v := 2) hx hb dL_sleep_16 (by decide) ?_
      exact W.iret hx hb hr (fun t ht9 _ => ⟨⟨_, w1, _, rfl, by rw [ht9]; exact hP, ht, hC1⟩, hS.F ht9⟩) hS.2.2 dL_sleep_17
    refine List.forall_mem_cons.mpr ⟨⟨[], ⟨0, 9, 12, 21⟩, [⟨0, 9, 15, 23⟩], htab, (fun _ h => absurd h List.not_mem_nil), by decide, by decide, hts _ (List.mem_cons_of_mem _ (lm_ _ (List.mem_of_getElem? (i := 5) rfl))), va_Nw.use rfl (hT.2.2.1 "java/lang/IndexOutOfBoundsException" (by decide)), fun qx H locs w1 hP hD hS ht hC1 => ?_⟩, ?_⟩
    · refine lv_astore_n (lv' := [(3, .ref qx), (0, .ref (yX Y)), (1, .int x1), (2, .ref oa)]) hx hb dL_sleep_12 rfl hl (by decide) rfl (fun ls hl => ?_)
      refine lv_iconst (v := 1) hx hb dL_sleep_13 (by decide) ?_
      exact W.iret hx hb hr (fun t ht9 _ => ⟨⟨_, w1, _, rfl, by rw [ht9]; exact hP, ht, hC1⟩, hS.F ht9⟩) hS.2.2 dL_sleep_14
    exact fun q hq => by cases hq
  · intro H locs w1 y hP hD hS ht hC1
    refine lv_i2l (v := y.toInt64) hx hb dL_sleep_7 rfl ?_
    refine va_last hx hb hK hP hD hS 0 2 rfl rfl (by unfold vp_in; decide) dL_sleep_8 (fun H locs hP hD hS => ?_)
    rw [my_upd0] at hP
    have hP : va_P D vwCl ((oa, .inl (cy 2, 1, .inr (.inl (vp_updL f 0 y.toInt64)))) :: w1) H := hP
    refine lv_goto (tgt := 18) hx hb dL_sleep_9 (by decide) ?_
    refine lv_iconst (v := 0) hx hb dL_sleep_18 (by decide) ?_
    exact W.iret hx hb hr (fun t ht9 _ => ⟨⟨_, w1, _, rfl, by rw [ht9]; exact hP, ht, hC1⟩, hS.F ht9⟩) hS.2.2 dL_sleep_19


set_option maxRecDepth 100000 in
set_option maxHeartbeats 4000000 in
theorem ws_wake (l : Launch) (D : va_G) (cy : Nat → ClassId) (hst : l.stackTraces = false) {ad τ : List Nat} {w : va_W} {B : Int} (sz oa : Nat) (f : Nat → Int64) (hs : vi_s1 vSG τ) {x0 q0 : Nat} (hr1 : ad[q0]? = some x0) (hC : CS cy ad τ x0 w B) (x1 : Int32) : vw_MS l D cy ad τ oa x0 f w B sz yL_wake (Cond.codeWith yL_wake cL_wake 4 (some .int) [(0, 9, 12, 21), (0, 9, 15, 23)] :: lWall) 8 2 136 [.ref x0, .int x1, .ref oa] := by
  obtain ⟨Y, σ, rfl, rfl, hV, hI⟩ := hC
  have hw0 : (cwL cy ad σ)[q0]? = some (yX Y, .inr (14, sgVs σ (yX Y) 0 (sgC 14))) := (cwL_at hr1).trans (by rw [sgE_ob (ci := 14) hV.2.1.1 (by decide)])
  refine wr_ofW (cc := cL_wake) (maxL := 4) (ret := (some .int)) (hh := [(0, 9, 12, 21), (0, 9, 15, 23)]) (lv := [(0, .ref (yX Y)), (1, .int x1), (2, .ref oa)]) (by decide) rfl (Nat.le_of_ble_eq_true rfl) rfl ?_
  intro p e s m below meth c ls hx hb hr hml hown hlocks htab hts hv hl
  have hown : s.vm.findClass RL = some m.cls := hown
  obtain ⟨⟨⟨hsz, hP, hD0⟩, hK, hN⟩, hT⟩ := hv
  subst hsz
  have hD := hD0.self (sz := s.heap.size)
  generalize hAe : va_A ((oa, .inl (cy 2, 1, .inr (.inl f))) :: cwL cy ad σ) s.heap.size = A at hD hT ⊢
  have hA : ∀ q : Nat, s.heap.size ≤ q → A q := fun q h => by rw [← hAe]; exact Or.inr h
  have hS : va_S A s.heap s.heap [] := va_S.rf
  have hP : va_P D vwCl ([(oa, .inl (cy 2, 1, .inr (.inl f)))] ++ cwL cy ad σ) s.heap := hP
  have hD : va_D A ([(oa, .inl (cy 2, 1, .inr (.inl f)))] ++ cwL cy ad σ) := hD
  have S : CallFix p m c cL_wake 4 s _ (_ :: lWall) RL := ⟨hx, hb, hml, hown, hts⟩
  refine lv_aload_n hx hb dL_wake_0 rfl (lv_at hl 2 rfl) ?_
  refine lv_iconst (v := 0) hx hb dL_wake_1 (by decide) ?_
  refine lv_aload_n hx hb dL_wake_2 rfl (lv_at hl 0 rfl) ?_
  refine lv_iload_n hx hb dL_wake_3 rfl (lv_at hl 1 rfl) ?_
  refine cl_catch (wr := [(oa, .inl (cy 2, 1, .inr (.inl f)))]) (b := yX Y) (As := [.int x1]) (rest := [.int 0, .ref oa]) S hV hI (k_wake l D cy hst hs hV hI x1  _) (cwV 1 S.2.2.2.2 (lgV (lm_ _ (List.mem_of_getElem? (i := 79) rfl)) (lm_ _ (List.mem_of_getElem? (i := 80) rfl)) (lm_ _ (List.mem_of_getElem? (i := 81) rfl)) (lv_ _ (vm_4 _ (List.mem_of_getElem? (i := 20) rfl))) (lv_ _ (vm_7 _ (List.mem_of_getElem? (i := 21) rfl)))) rfl rfl rfl ⟨rfl, by decide, by decide, by decide +kernel⟩ ⟨Nat.le_of_ble_eq_true rfl, Nat.le_of_ble_eq_true rfl⟩) rfl (va_recv hK hP.right (ci := 14) rfl hw0) hK hN hT hP hD hS hA hl.1 rfl (Nat.le_of_ble_eq_true rfl) dL_wake_4 ⟨Nat.le_of_ble_eq_true rfl, Nat.le_of_ble_eq_true rfl⟩ ?_ ?_
  · refine List.forall_mem_cons.mpr ⟨⟨[⟨0, 9, 12, 21⟩], ⟨0, 9, 15, 23⟩, [], htab, (by intro z hz; simp only [List.mem_cons, List.not_mem_nil, or_false] at hz; subst hz; exact Or.inr ⟨by decide, "java/lang/IndexOutOfBoundsException", hts _ (List.mem_cons_of_mem _ (lm_ _ (List.mem_of_getElem? (i := 5) rfl))), hT.2.2.2.2 "java/lang/UnsupportedOperationException" (by decide) "java/lang/IndexOutOfBoundsException" (by decide) (by decide)⟩), by decide, by decide, hts _ (List.mem_cons_of_mem _ (lm_ _ (List.mem_of_getElem? (i := 171) rfl))), va_Nw.use rfl (hT.2.2.1 "java/lang/UnsupportedOperationException" (by decide)), fun qx H locs w1 hP hD hS ht hC1 => ?_⟩, ?_⟩
    · refine lv_astore_n (lv' := [(3, .ref qx), (0, .ref (yX Y)), (1, .int x1), (2, .ref oa)]) hx hb dL_wake_15 rfl hl (by decide) rfl (fun ls hl => ?_)
      refine lv_iconst (v := 2) hx hb dL_wake_16 (by decide) ?_
      exact W.iret hx hb hr (fun t ht9 _ => ⟨⟨_, w1, _, rfl, by rw [ht9]; exact hP, ht, hC1⟩, hS.F ht9⟩) hS.2.2 dL_wake_17
    refine List.forall_mem_cons.mpr ⟨⟨[], ⟨0, 9, 12, 21⟩, [⟨0, 9, 15, 23⟩], htab, (fun _ h => absurd h List.not_mem_nil), by decide, by decide, hts _ (List.mem_cons_of_mem _ (lm_ _ (List.mem_of_getElem? (i := 5) rfl))), va_Nw.use rfl (hT.2.2.1 "java/lang/IndexOutOfBoundsException" (by decide)), fun qx H locs w1 hP hD hS ht hC1 => ?_⟩, ?_⟩
    · refine lv_astore_n (lv' := [(3, .ref qx), (0, .ref (yX Y)), (1, .int x1), (2, .ref oa)]) hx hb dL_wake_12 rfl hl (by decide) rfl (fun ls hl => ?_)
      refine lv_iconst (v := 1) hx hb dL_wake_13 (by decide) ?_
      exact W.iret hx hb hr (fun t ht9 _ => ⟨⟨_, w1, _, rfl, by rw [ht9]; exact hP, ht, hC1⟩, hS.F ht9⟩) hS.2.2 dL_wake_14
    exact fun q hq => by cases hq
  · intro H locs w1 y hP hD hS ht hC1
    refine lv_i2l (v := y.toInt64) hx hb dL_wake_7 rfl ?_
    refine va_last hx hb hK hP hD hS 0 2 rfl rfl (by unfold vp_in; decide) dL_wake_8 (fun H locs hP hD hS => ?_)
    rw [my_upd0] at hP
    have hP : va_P D vwCl ((oa, .inl (cy 2, 1, .inr (.inl (vp_updL f 0 y.toInt64)))) :: w1) H := hP
    refine lv_goto (tgt := 18) hx hb dL_wake_9 (by decide) ?_
    refine lv_iconst (v := 0) hx hb dL_wake_18 (by decide) ?_
    exact W.iret hx hb hr (fun t ht9 _ => ⟨⟨_, w1, _, rfl, by rw [ht9]; exact hP, ht, hC1⟩, hS.F ht9⟩) hS.2.2 dL_wake_19


set_option maxRecDepth 100000 in
set_option maxHeartbeats 4000000 in
theorem ws_open (l : Launch) (D : va_G) (cy : Nat → ClassId) (hst : l.stackTraces = false) {ad τ : List Nat} {w : va_W} {B : Int} (sz oa : Nat) (f : Nat → Int64) (hs : vi_s1 vSG τ) {x0 q0 : Nat} (hr1 : ad[q0]? = some x0) (hC : CS cy ad τ x0 w B) (x1 : Int32) (x2 : Int32) (x3 : Int32) (hx3 : 0 ≤ x3.toInt ∧ x3.toInt ≤ 65535) (x4 : Int32) : vw_MS l D cy ad τ oa x0 f w B sz yL_open (Cond.codeWith yL_open cL_open 7 (some .int) [(0, 14, 17, 21), (0, 14, 21, 13), (0, 14, 25, 23), (0, 14, 29, 15)] :: lWall) 8 3 139 [.ref x0, .int x1, .int x2, .int x3, .int x4, .ref oa] := by
  obtain ⟨Y, σ, rfl, rfl, hV, hI⟩ := hC
  have hw0 : (cwL cy ad σ)[q0]? = some (yX Y, .inr (14, sgVs σ (yX Y) 0 (sgC 14))) := (cwL_at hr1).trans (by rw [sgE_ob (ci := 14) hV.2.1.1 (by decide)])
  refine wr_ofW (cc := cL_open) (maxL := 7) (ret := (some .int)) (hh := [(0, 14, 17, 21), (0, 14, 21, 13), (0, 14, 25, 23), (0, 14, 29, 15)]) (lv := [(0, .ref (yX Y)), (1, .int x1), (2, .int x2), (3, .int x3), (4, .int x4), (5, .ref oa)]) (by decide) rfl (Nat.le_of_ble_eq_true rfl) rfl ?_
  intro p e s m below meth c ls hx hb hr hml hown hlocks htab hts hv hl
  have hown : s.vm.findClass RL = some m.cls := hown
  obtain ⟨⟨⟨hsz, hP, hD0⟩, hK, hN⟩, hT⟩ := hv
  subst hsz
  have hD := hD0.self (sz := s.heap.size)
  generalize hAe : va_A ((oa, .inl (cy 2, 1, .inr (.inl f))) :: cwL cy ad σ) s.heap.size = A at hD hT ⊢
  have hA : ∀ q : Nat, s.heap.size ≤ q → A q := fun q h => by rw [← hAe]; exact Or.inr h
  have hS : va_S A s.heap s.heap [] := va_S.rf
  have hP : va_P D vwCl ([(oa, .inl (cy 2, 1, .inr (.inl f)))] ++ cwL cy ad σ) s.heap := hP
  have hD : va_D A ([(oa, .inl (cy 2, 1, .inr (.inl f)))] ++ cwL cy ad σ) := hD
  have S : CallFix p m c cL_open 7 s _ (_ :: lWall) RL := ⟨hx, hb, hml, hown, hts⟩
  refine lv_aload hx hb dL_open_0 (lv_at hl 5 rfl) ?_
  refine lv_iconst (v := 0) hx hb dL_open_2 (by decide) ?_
  refine lv_aload_n hx hb dL_open_3 rfl (lv_at hl 0 rfl) ?_
  refine lv_iload_n hx hb dL_open_4 rfl (lv_at hl 1 rfl) ?_
  refine lv_iload_n hx hb dL_open_5 rfl (lv_at hl 2 rfl) ?_
  refine lv_iload_n hx hb dL_open_6 rfl (lv_at hl 3 rfl) ?_
  refine lv_iload hx hb dL_open_7 (lv_at hl 4 rfl) ?_
  refine cl_catch (wr := [(oa, .inl (cy 2, 1, .inr (.inl f)))]) (b := yX Y) (As := [.int x1, .int x2, .int x3, .int x4]) (rest := [.int 0, .ref oa]) S hV hI (k_open l D cy hst hs hV hI x1 x2 x3 x4 (show sgF 1 x3 from hx3) _) (cwV 4 S.2.2.2.2 (lgV (lm_ _ (List.mem_of_getElem? (i := 88) rfl)) (lm_ _ (List.mem_of_getElem? (i := 89) rfl)) (lm_ _ (List.mem_of_getElem? (i := 90) rfl)) (lv_ _ (vm_4 _ (List.mem_of_getElem? (i := 20) rfl))) (lv_ _ (vm_8 _ (List.mem_of_getElem? (i := 14) rfl)))) rfl rfl rfl ⟨rfl, by decide, by decide, by decide +kernel⟩ ⟨Nat.le_of_ble_eq_true rfl, Nat.le_of_ble_eq_true rfl⟩) rfl (va_recv hK hP.right (ci := 14) rfl hw0) hK hN hT hP hD hS hA hl.1 rfl (Nat.le_of_ble_eq_true rfl) dL_open_9 ⟨Nat.le_of_ble_eq_true rfl, Nat.le_of_ble_eq_true rfl⟩ ?_ ?_
  · refine List.forall_mem_cons.mpr ⟨⟨[⟨0, 14, 17, 21⟩], ⟨0, 14, 21, 13⟩, [⟨0, 14, 25, 23⟩, ⟨0, 14, 29, 15⟩], htab, (by intro z hz; simp only [List.mem_cons, List.not_mem_nil, or_false] at hz; subst hz; exact Or.inr ⟨by decide, "java/lang/IndexOutOfBoundsException", hts _ (List.mem_cons_of_mem _ (lm_ _ (List.mem_of_getElem? (i := 5) rfl))), hT.2.2.2.2 "java/lang/IllegalArgumentException" (by decide) "java/lang/IndexOutOfBoundsException" (by decide) (by decide)⟩), by decide, by decide, hts _ (List.mem_cons_of_mem _ (lm_ _ (List.mem_of_getElem? (i := 0) rfl))), va_Nw.use rfl (hT.2.2.1 "java/lang/IllegalArgumentException" (by decide)), fun qx H locs w1 hP hD hS ht hC1 => ?_⟩, ?_⟩
    · refine lv_astore (lv' := [(6, .ref qx), (0, .ref (yX Y)), (1, .int x1), (2, .int x2), (3, .int x3), (4, .int x4), (5, .ref oa)]) hx hb dL_open_21 hl (by decide) rfl (fun ls hl => ?_)
      refine lv_iconst (v := 2) hx hb dL_open_23 (by decide) ?_
      exact W.iret hx hb hr (fun t ht9 _ => ⟨⟨_, w1, _, rfl, by rw [ht9]; exact hP, ht, hC1⟩, hS.F ht9⟩) hS.2.2 dL_open_24
    refine List.forall_mem_cons.mpr ⟨⟨[⟨0, 14, 17, 21⟩, ⟨0, 14, 21, 13⟩], ⟨0, 14, 25, 23⟩, [⟨0, 14, 29, 15⟩], htab, (by intro z hz; simp only [List.mem_cons, List.not_mem_nil, or_false] at hz; rcases hz with rfl | rfl <;> first | exact Or.inr ⟨by decide, "java/lang/IndexOutOfBoundsException", hts _ (List.mem_cons_of_mem _ (lm_ _ (List.mem_of_getElem? (i := 5) rfl))), hT.2.2.2.2 "java/lang/UnsupportedOperationException" (by decide) "java/lang/IndexOutOfBoundsException" (by decide) (by decide)⟩ | exact Or.inr ⟨by decide, "java/lang/IllegalArgumentException", hts _ (List.mem_cons_of_mem _ (lm_ _ (List.mem_of_getElem? (i := 0) rfl))), hT.2.2.2.2 "java/lang/UnsupportedOperationException" (by decide) "java/lang/IllegalArgumentException" (by decide) (by decide)⟩), by decide, by decide, hts _ (List.mem_cons_of_mem _ (lm_ _ (List.mem_of_getElem? (i := 171) rfl))), va_Nw.use rfl (hT.2.2.1 "java/lang/UnsupportedOperationException" (by decide)), fun qx H locs w1 hP hD hS ht hC1 => ?_⟩, ?_⟩
    · refine lv_astore (lv' := [(6, .ref qx), (0, .ref (yX Y)), (1, .int x1), (2, .int x2), (3, .int x3), (4, .int x4), (5, .ref oa)]) hx hb dL_open_25 hl (by decide) rfl (fun ls hl => ?_)
      refine lv_iconst (v := 3) hx hb dL_open_27 (by decide) ?_
      exact W.iret hx hb hr (fun t ht9 _ => ⟨⟨_, w1, _, rfl, by rw [ht9]; exact hP, ht, hC1⟩, hS.F ht9⟩) hS.2.2 dL_open_28
    refine List.forall_mem_cons.mpr ⟨⟨[⟨0, 14, 17, 21⟩, ⟨0, 14, 21, 13⟩, ⟨0, 14, 25, 23⟩], ⟨0, 14, 29, 15⟩, [], htab, (by intro z hz; simp only [List.mem_cons, List.not_mem_nil, or_false] at hz; rcases hz with rfl | rfl | rfl <;> first | exact Or.inr ⟨by decide, "java/lang/IndexOutOfBoundsException", hts _ (List.mem_cons_of_mem _ (lm_ _ (List.mem_of_getElem? (i := 5) rfl))), hT.2.2.2.2 "java/lang/IllegalStateException" (by decide) "java/lang/IndexOutOfBoundsException" (by decide) (by decide)⟩ | exact Or.inr ⟨by decide, "java/lang/IllegalArgumentException", hts _ (List.mem_cons_of_mem _ (lm_ _ (List.mem_of_getElem? (i := 0) rfl))), hT.2.2.2.2 "java/lang/IllegalStateException" (by decide) "java/lang/IllegalArgumentException" (by decide) (by decide)⟩ | exact Or.inr ⟨by decide, "java/lang/UnsupportedOperationException", hts _ (List.mem_cons_of_mem _ (lm_ _ (List.mem_of_getElem? (i := 171) rfl))), hT.2.2.2.2 "java/lang/IllegalStateException" (by decide) "java/lang/UnsupportedOperationException" (by decide) (by decide)⟩), by decide, by decide, hts _ (List.mem_cons_of_mem _ (lm_ _ (List.mem_of_getElem? (i := 170) rfl))), va_Nw.use rfl (hT.2.2.1 "java/lang/IllegalStateException" (by decide)), fun qx H locs w1 hP hD hS ht hC1 => ?_⟩, ?_⟩
    · refine lv_astore (lv' := [(6, .ref qx), (0, .ref (yX Y)), (1, .int x1), (2, .int x2), (3, .int x3), (4, .int x4), (5, .ref oa)]) hx hb dL_open_29 hl (by decide) rfl (fun ls hl => ?_)
      refine lv_iconst (v := 4) hx hb dL_open_31 (by decide) ?_
      exact W.iret hx hb hr (fun t ht9 _ => ⟨⟨_, w1, _, rfl, by rw [ht9]; exact hP, ht, hC1⟩, hS.F ht9⟩) hS.2.2 dL_open_32
    refine List.forall_mem_cons.mpr ⟨⟨[], ⟨0, 14, 17, 21⟩, [⟨0, 14, 21, 13⟩, ⟨0, 14, 25, 23⟩, ⟨0, 14, 29, 15⟩], htab, (fun _ h => absurd h List.not_mem_nil), by decide, by decide, hts _ (List.mem_cons_of_mem _ (lm_ _ (List.mem_of_getElem? (i := 5) rfl))), va_Nw.use rfl (hT.2.2.1 "java/lang/IndexOutOfBoundsException" (by decide)), fun qx H locs w1 hP hD hS ht hC1 => ?_⟩, ?_⟩
    · refine lv_astore (lv' := [(6, .ref qx), (0, .ref (yX Y)), (1, .int x1), (2, .int x2), (3, .int x3), (4, .int x4), (5, .ref oa)]) hx hb dL_open_17 hl (by decide) rfl (fun ls hl => ?_)
      refine lv_iconst (v := 1) hx hb dL_open_19 (by decide) ?_
      exact W.iret hx hb hr (fun t ht9 _ => ⟨⟨_, w1, _, rfl, by rw [ht9]; exact hP, ht, hC1⟩, hS.F ht9⟩) hS.2.2 dL_open_20
    exact fun q hq => by cases hq
  · intro H locs w1 y hP hD hS ht hC1
    refine lv_i2l (v := y.toInt64) hx hb dL_open_12 rfl ?_
    refine va_last hx hb hK hP hD hS 0 2 rfl rfl (by unfold vp_in; decide) dL_open_13 (fun H locs hP hD hS => ?_)
    rw [my_upd0] at hP
    have hP : va_P D vwCl ((oa, .inl (cy 2, 1, .inr (.inl (vp_updL f 0 y.toInt64)))) :: w1) H := hP
    refine lv_goto (tgt := 33) hx hb dL_open_14 (by decide) ?_
    refine lv_iconst (v := 0) hx hb dL_open_33 (by decide) ?_
    exact W.iret hx hb hr (fun t ht9 _ => ⟨⟨_, w1, _, rfl, by rw [ht9]; exact hP, ht, hC1⟩, hS.F ht9⟩) hS.2.2 dL_open_34


set_option maxRecDepth 100000 in
set_option maxHeartbeats 4000000 in
theorem ws_close (l : Launch) (D : va_G) (cy : Nat → ClassId) (hst : l.stackTraces = false) {ad τ : List Nat} {w : va_W} {B : Int} (sz oa : Nat) (f : Nat → Int64) (hs : vi_s1 vSG τ) {x0 q0 : Nat} (hr1 : ad[q0]? = some x0) (hC : CS cy ad τ x0 w B) (x1 : Int32) : vw_MS l D cy ad τ oa x0 f w B sz yL_close (Cond.codeWith yL_close cL_close 4 (some .int) [(0, 9, 12, 56)] :: lWall) 8 1 132 [.ref x0, .int x1, .ref oa] := by
  obtain ⟨Y, σ, rfl, rfl, hV, hI⟩ := hC
  have hw0 : (cwL cy ad σ)[q0]? = some (yX Y, .inr (14, sgVs σ (yX Y) 0 (sgC 14))) := (cwL_at hr1).trans (by rw [sgE_ob (ci := 14) hV.2.1.1 (by decide)])
  refine wr_ofW (cc := cL_close) (maxL := 4) (ret := (some .int)) (hh := [(0, 9, 12, 56)]) (lv := [(0, .ref (yX Y)), (1, .int x1), (2, .ref oa)]) (by decide) rfl (Nat.le_of_ble_eq_true rfl) rfl ?_
  intro p e s m below meth c ls hx hb hr hml hown hlocks htab hts hv hl
  have hown : s.vm.findClass RL = some m.cls := hown
  obtain ⟨⟨⟨hsz, hP, hD0⟩, hK, hN⟩, hT⟩ := hv
  subst hsz
  have hD := hD0.self (sz := s.heap.size)
  generalize hAe : va_A ((oa, .inl (cy 2, 1, .inr (.inl f))) :: cwL cy ad σ) s.heap.size = A at hD hT ⊢
  have hA : ∀ q : Nat, s.heap.size ≤ q → A q := fun q h => by rw [← hAe]; exact Or.inr h
  have hS : va_S A s.heap s.heap [] := va_S.rf
  have hP : va_P D vwCl ([(oa, .inl (cy 2, 1, .inr (.inl f)))] ++ cwL cy ad σ) s.heap := hP
  have hD : va_D A ([(oa, .inl (cy 2, 1, .inr (.inl f)))] ++ cwL cy ad σ) := hD
  have S : CallFix p m c cL_close 4 s _ (_ :: lWall) RL := ⟨hx, hb, hml, hown, hts⟩
  refine lv_aload_n hx hb dL_close_0 rfl (lv_at hl 2 rfl) ?_
  refine lv_iconst (v := 0) hx hb dL_close_1 (by decide) ?_
  refine lv_aload_n hx hb dL_close_2 rfl (lv_at hl 0 rfl) ?_
  refine lv_iload_n hx hb dL_close_3 rfl (lv_at hl 1 rfl) ?_
  refine cl_catch (wr := [(oa, .inl (cy 2, 1, .inr (.inl f)))]) (b := yX Y) (As := [.int x1]) (rest := [.int 0, .ref oa]) S hV hI (k_clos l D cy hst hs hV hI x1  _) (cwV 1 S.2.2.2.2 (lgV (lm_ _ (List.mem_of_getElem? (i := 93) rfl)) (lm_ _ (List.mem_of_getElem? (i := 94) rfl)) (lm_ _ (List.mem_of_getElem? (i := 95) rfl)) (lv_ _ (vm_4 _ (List.mem_of_getElem? (i := 20) rfl))) (lv_ _ (vm_8 _ (List.mem_of_getElem? (i := 19) rfl)))) rfl rfl rfl ⟨rfl, by decide, by decide, by decide +kernel⟩ ⟨Nat.le_of_ble_eq_true rfl, Nat.le_of_ble_eq_true rfl⟩) rfl (va_recv hK hP.right (ci := 14) rfl hw0) hK hN hT hP hD hS hA hl.1 rfl (Nat.le_of_ble_eq_true rfl) dL_close_4 ⟨Nat.le_of_ble_eq_true rfl, Nat.le_of_ble_eq_true rfl⟩ ?_ ?_
  · refine List.forall_mem_cons.mpr ⟨⟨[], ⟨0, 9, 12, 56⟩, [], htab, (fun _ h => absurd h List.not_mem_nil), by decide, by decide, hts _ (List.mem_cons_of_mem _ (lm_ _ (List.mem_of_getElem? (i := 47) rfl))), va_Nw.use rfl (hT.2.2.1 "java/util/NoSuchElementException" (by decide)), fun qx H locs w1 hP hD hS ht hC1 => ?_⟩, ?_⟩
    · refine lv_astore_n (lv' := [(3, .ref qx), (0, .ref (yX Y)), (1, .int x1), (2, .ref oa)]) hx hb dL_close_12 rfl hl (by decide) rfl (fun ls hl => ?_)
      refine lv_iconst (v := 1) hx hb dL_close_13 (by decide) ?_
      exact W.iret hx hb hr (fun t ht9 _ => ⟨⟨_, w1, _, rfl, by rw [ht9]; exact hP, ht, hC1⟩, hS.F ht9⟩) hS.2.2 dL_close_14
    exact fun q hq => by cases hq
  · intro H locs w1 y hP hD hS ht hC1
    refine lv_i2l (v := y.toInt64) hx hb dL_close_7 rfl ?_
    refine va_last hx hb hK hP hD hS 0 2 rfl rfl (by unfold vp_in; decide) dL_close_8 (fun H locs hP hD hS => ?_)
    rw [my_upd0] at hP
    have hP : va_P D vwCl ((oa, .inl (cy 2, 1, .inr (.inl (vp_updL f 0 y.toInt64)))) :: w1) H := hP
    refine lv_goto (tgt := 15) hx hb dL_close_9 (by decide) ?_
    refine lv_iconst (v := 0) hx hb dL_close_15 (by decide) ?_
    exact W.iret hx hb hr (fun t ht9 _ => ⟨⟨_, w1, _, rfl, by rw [ht9]; exact hP, ht, hC1⟩, hS.F ht9⟩) hS.2.2 dL_close_16


set_option maxRecDepth 100000 in
set_option maxHeartbeats 4000000 in
theorem ws_send (l : Launch) (D : va_G) (cy : Nat → ClassId) (hst : l.stackTraces = false) {ad τ : List Nat} {w : va_W} {B : Int} (sz oa : Nat) (f : Nat → Int64) (hs : vi_s1 vSG τ) {x0 q0 : Nat} (hr1 : ad[q0]? = some x0) (hC : CS cy ad τ x0 w B) (x1 : Int32) : vw_MS l D cy ad τ oa x0 f w B sz yL_send (Cond.codeWith yL_send cL_send 4 (some .int) [(0, 9, 12, 56), (0, 9, 15, 23), (0, 9, 18, 15)] :: lWall) 8 2 136 [.ref x0, .int x1, .ref oa] := by
  obtain ⟨Y, σ, rfl, rfl, hV, hI⟩ := hC
  have hw0 : (cwL cy ad σ)[q0]? = some (yX Y, .inr (14, sgVs σ (yX Y) 0 (sgC 14))) := (cwL_at hr1).trans (by rw [sgE_ob (ci := 14) hV.2.1.1 (by decide)])
  refine wr_ofW (cc := cL_send) (maxL := 4) (ret := (some .int)) (hh := [(0, 9, 12, 56), (0, 9, 15, 23), (0, 9, 18, 15)]) (lv := [(0, .ref (yX Y)), (1, .int x1), (2, .ref oa)]) (by decide) rfl (Nat.le_of_ble_eq_true rfl) rfl ?_
  intro p e s m below meth c ls hx hb hr hml hown hlocks htab hts hv hl
  have hown : s.vm.findClass RL = some m.cls := hown
  obtain ⟨⟨⟨hsz, hP, hD0⟩, hK, hN⟩, hT⟩ := hv
  subst hsz
  have hD := hD0.self (sz := s.heap.size)
  generalize hAe : va_A ((oa, .inl (cy 2, 1, .inr (.inl f))) :: cwL cy ad σ) s.heap.size = A at hD hT ⊢
  have hA : ∀ q : Nat, s.heap.size ≤ q → A q := fun q h => by rw [← hAe]; exact Or.inr h
  have hS : va_S A s.heap s.heap [] := va_S.rf
  have hP : va_P D vwCl ([(oa, .inl (cy 2, 1, .inr (.inl f)))] ++ cwL cy ad σ) s.heap := hP
  have hD : va_D A ([(oa, .inl (cy 2, 1, .inr (.inl f)))] ++ cwL cy ad σ) := hD
  have S : CallFix p m c cL_send 4 s _ (_ :: lWall) RL := ⟨hx, hb, hml, hown, hts⟩
  refine lv_aload_n hx hb dL_send_0 rfl (lv_at hl 2 rfl) ?_
  refine lv_iconst (v := 0) hx hb dL_send_1 (by decide) ?_
  refine lv_aload_n hx hb dL_send_2 rfl (lv_at hl 0 rfl) ?_
  refine lv_iload_n hx hb dL_send_3 rfl (lv_at hl 1 rfl) ?_
  refine cl_catch (wr := [(oa, .inl (cy 2, 1, .inr (.inl f)))]) (b := yX Y) (As := [.int x1]) (rest := [.int 0, .ref oa]) S hV hI (k_send l D cy hst hs hV hI x1  _) (cwV 1 S.2.2.2.2 (lgV (lm_ _ (List.mem_of_getElem? (i := 104) rfl)) (lm_ _ (List.mem_of_getElem? (i := 105) rfl)) (lm_ _ (List.mem_of_getElem? (i := 106) rfl)) (lv_ _ (vm_4 _ (List.mem_of_getElem? (i := 20) rfl))) (lv_ _ (vm_8 _ (List.mem_of_getElem? (i := 24) rfl)))) rfl rfl rfl ⟨rfl, by decide, by decide, by decide +kernel⟩ ⟨Nat.le_of_ble_eq_true rfl, Nat.le_of_ble_eq_true rfl⟩) rfl (va_recv hK hP.right (ci := 14) rfl hw0) hK hN hT hP hD hS hA hl.1 rfl (Nat.le_of_ble_eq_true rfl) dL_send_4 ⟨Nat.le_of_ble_eq_true rfl, Nat.le_of_ble_eq_true rfl⟩ ?_ ?_
  · refine List.forall_mem_cons.mpr ⟨⟨[⟨0, 9, 12, 56⟩], ⟨0, 9, 15, 23⟩, [⟨0, 9, 18, 15⟩], htab, (by intro z hz; simp only [List.mem_cons, List.not_mem_nil, or_false] at hz; subst hz; exact Or.inr ⟨by decide, "java/util/NoSuchElementException", hts _ (List.mem_cons_of_mem _ (lm_ _ (List.mem_of_getElem? (i := 47) rfl))), hT.2.2.2.2 "java/lang/UnsupportedOperationException" (by decide) "java/util/NoSuchElementException" (by decide) (by decide)⟩), by decide, by decide, hts _ (List.mem_cons_of_mem _ (lm_ _ (List.mem_of_getElem? (i := 171) rfl))), va_Nw.use rfl (hT.2.2.1 "java/lang/UnsupportedOperationException" (by decide)), fun qx H locs w1 hP hD hS ht hC1 => ?_⟩, ?_⟩
    · refine lv_astore_n (lv' := [(3, .ref qx), (0, .ref (yX Y)), (1, .int x1), (2, .ref oa)]) hx hb dL_send_15 rfl hl (by decide) rfl (fun ls hl => ?_)
      refine lv_iconst (v := 2) hx hb dL_send_16 (by decide) ?_
      exact W.iret hx hb hr (fun t ht9 _ => ⟨⟨_, w1, _, rfl, by rw [ht9]; exact hP, ht, hC1⟩, hS.F ht9⟩) hS.2.2 dL_send_17
    refine List.forall_mem_cons.mpr ⟨⟨[⟨0, 9, 12, 56⟩, ⟨0, 9, 15, 23⟩], ⟨0, 9, 18, 15⟩, [], htab, (by intro z hz; simp only [List.mem_cons, List.not_mem_nil, or_false] at hz; rcases hz with rfl | rfl <;> first | exact Or.inr ⟨by decide, "java/util/NoSuchElementException", hts _ (List.mem_cons_of_mem _ (lm_ _ (List.mem_of_getElem? (i := 47) rfl))), hT.2.2.2.2 "java/lang/IllegalStateException" (by decide) "java/util/NoSuchElementException" (by decide) (by decide)⟩ | exact Or.inr ⟨by decide, "java/lang/UnsupportedOperationException", hts _ (List.mem_cons_of_mem _ (lm_ _ (List.mem_of_getElem? (i := 171) rfl))), hT.2.2.2.2 "java/lang/IllegalStateException" (by decide) "java/lang/UnsupportedOperationException" (by decide) (by decide)⟩), by decide, by decide, hts _ (List.mem_cons_of_mem _ (lm_ _ (List.mem_of_getElem? (i := 170) rfl))), va_Nw.use rfl (hT.2.2.1 "java/lang/IllegalStateException" (by decide)), fun qx H locs w1 hP hD hS ht hC1 => ?_⟩, ?_⟩
    · refine lv_astore_n (lv' := [(3, .ref qx), (0, .ref (yX Y)), (1, .int x1), (2, .ref oa)]) hx hb dL_send_18 rfl hl (by decide) rfl (fun ls hl => ?_)
      refine lv_iconst (v := 3) hx hb dL_send_19 (by decide) ?_
      exact W.iret hx hb hr (fun t ht9 _ => ⟨⟨_, w1, _, rfl, by rw [ht9]; exact hP, ht, hC1⟩, hS.F ht9⟩) hS.2.2 dL_send_20
    refine List.forall_mem_cons.mpr ⟨⟨[], ⟨0, 9, 12, 56⟩, [⟨0, 9, 15, 23⟩, ⟨0, 9, 18, 15⟩], htab, (fun _ h => absurd h List.not_mem_nil), by decide, by decide, hts _ (List.mem_cons_of_mem _ (lm_ _ (List.mem_of_getElem? (i := 47) rfl))), va_Nw.use rfl (hT.2.2.1 "java/util/NoSuchElementException" (by decide)), fun qx H locs w1 hP hD hS ht hC1 => ?_⟩, ?_⟩
    · refine lv_astore_n (lv' := [(3, .ref qx), (0, .ref (yX Y)), (1, .int x1), (2, .ref oa)]) hx hb dL_send_12 rfl hl (by decide) rfl (fun ls hl => ?_)
      refine lv_iconst (v := 1) hx hb dL_send_13 (by decide) ?_
      exact W.iret hx hb hr (fun t ht9 _ => ⟨⟨_, w1, _, rfl, by rw [ht9]; exact hP, ht, hC1⟩, hS.F ht9⟩) hS.2.2 dL_send_14
    exact fun q hq => by cases hq
  · intro H locs w1 y hP hD hS ht hC1
    refine lv_i2l (v := y.toInt64) hx hb dL_send_7 rfl ?_
    refine va_last hx hb hK hP hD hS 0 2 rfl rfl (by unfold vp_in; decide) dL_send_8 (fun H locs hP hD hS => ?_)
    rw [my_upd0] at hP
    have hP : va_P D vwCl ((oa, .inl (cy 2, 1, .inr (.inl (vp_updL f 0 y.toInt64)))) :: w1) H := hP
    refine lv_goto (tgt := 21) hx hb dL_send_9 (by decide) ?_
    refine lv_iconst (v := 0) hx hb dL_send_21 (by decide) ?_
    exact W.iret hx hb hr (fun t ht9 _ => ⟨⟨_, w1, _, rfl, by rw [ht9]; exact hP, ht, hC1⟩, hS.F ht9⟩) hS.2.2 dL_send_22


set_option maxRecDepth 100000 in
set_option maxHeartbeats 4000000 in
theorem ws_ask (l : Launch) (D : va_G) (cy : Nat → ClassId) (hst : l.stackTraces = false) {ad τ : List Nat} {w : va_W} {B : Int} (sz oa : Nat) (f : Nat → Int64) (hs : vi_s1 vSG τ) {x0 q0 : Nat} (hr1 : ad[q0]? = some x0) (hC : CS cy ad τ x0 w B) (x1 : Int32) (x2 : Int32) : vw_MS l D cy ad τ oa x0 f w B sz yL_ask (Cond.codeWith yL_ask cL_ask 5 (some .int) [(0, 10, 13, 56), (0, 10, 17, 13), (0, 10, 21, 23), (0, 10, 25, 15)] :: lWall) 8 2 135 [.ref x0, .int x1, .int x2, .ref oa] := by
  obtain ⟨Y, σ, rfl, rfl, hV, hI⟩ := hC
  have hw0 : (cwL cy ad σ)[q0]? = some (yX Y, .inr (14, sgVs σ (yX Y) 0 (sgC 14))) := (cwL_at hr1).trans (by rw [sgE_ob (ci := 14) hV.2.1.1 (by decide)])
  refine wr_ofW (cc := cL_ask) (maxL := 5) (ret := (some .int)) (hh := [(0, 10, 13, 56), (0, 10, 17, 13), (0, 10, 21, 23), (0, 10, 25, 15)]) (lv := [(0, .ref (yX Y)), (1, .int x1), (2, .int x2), (3, .ref oa)]) (by decide) rfl (Nat.le_of_ble_eq_true rfl) rfl ?_
  intro p e s m below meth c ls hx hb hr hml hown hlocks htab hts hv hl
  have hown : s.vm.findClass RL = some m.cls := hown
  obtain ⟨⟨⟨hsz, hP, hD0⟩, hK, hN⟩, hT⟩ := hv
  subst hsz
  have hD := hD0.self (sz := s.heap.size)
  generalize hAe : va_A ((oa, .inl (cy 2, 1, .inr (.inl f))) :: cwL cy ad σ) s.heap.size = A at hD hT ⊢
  have hA : ∀ q : Nat, s.heap.size ≤ q → A q := fun q h => by rw [← hAe]; exact Or.inr h
  have hS : va_S A s.heap s.heap [] := va_S.rf
  have hP : va_P D vwCl ([(oa, .inl (cy 2, 1, .inr (.inl f)))] ++ cwL cy ad σ) s.heap := hP
  have hD : va_D A ([(oa, .inl (cy 2, 1, .inr (.inl f)))] ++ cwL cy ad σ) := hD
  have S : CallFix p m c cL_ask 5 s _ (_ :: lWall) RL := ⟨hx, hb, hml, hown, hts⟩
  refine lv_aload_n hx hb dL_ask_0 rfl (lv_at hl 3 rfl) ?_
  refine lv_iconst (v := 0) hx hb dL_ask_1 (by decide) ?_
  refine lv_aload_n hx hb dL_ask_2 rfl (lv_at hl 0 rfl) ?_
  refine lv_iload_n hx hb dL_ask_3 rfl (lv_at hl 1 rfl) ?_
  refine lv_iload_n hx hb dL_ask_4 rfl (lv_at hl 2 rfl) ?_
  refine cl_catch (wr := [(oa, .inl (cy 2, 1, .inr (.inl f)))]) (b := yX Y) (As := [.int x1, .int x2]) (rest := [.int 0, .ref oa]) S hV hI (k_ask l D cy hst hs hV hI x1 x2  _) (cwV 2 S.2.2.2.2 (lgV (lm_ _ (List.mem_of_getElem? (i := 107) rfl)) (lm_ _ (List.mem_of_getElem? (i := 108) rfl)) (lm_ _ (List.mem_of_getElem? (i := 109) rfl)) (lv_ _ (vm_4 _ (List.mem_of_getElem? (i := 20) rfl))) (lv_ _ (vm_8 _ (List.mem_of_getElem? (i := 25) rfl)))) rfl rfl rfl ⟨rfl, by decide, by decide, by decide +kernel⟩ ⟨Nat.le_of_ble_eq_true rfl, Nat.le_of_ble_eq_true rfl⟩) rfl (va_recv hK hP.right (ci := 14) rfl hw0) hK hN hT hP hD hS hA hl.1 rfl (Nat.le_of_ble_eq_true rfl) dL_ask_5 ⟨Nat.le_of_ble_eq_true rfl, Nat.le_of_ble_eq_true rfl⟩ ?_ ?_
  · refine List.forall_mem_cons.mpr ⟨⟨[⟨0, 10, 13, 56⟩], ⟨0, 10, 17, 13⟩, [⟨0, 10, 21, 23⟩, ⟨0, 10, 25, 15⟩], htab, (by intro z hz; simp only [List.mem_cons, List.not_mem_nil, or_false] at hz; subst hz; exact Or.inr ⟨by decide, "java/util/NoSuchElementException", hts _ (List.mem_cons_of_mem _ (lm_ _ (List.mem_of_getElem? (i := 47) rfl))), hT.2.2.2.2 "java/lang/IllegalArgumentException" (by decide) "java/util/NoSuchElementException" (by decide) (by decide)⟩), by decide, by decide, hts _ (List.mem_cons_of_mem _ (lm_ _ (List.mem_of_getElem? (i := 0) rfl))), va_Nw.use rfl (hT.2.2.1 "java/lang/IllegalArgumentException" (by decide)), fun qx H locs w1 hP hD hS ht hC1 => ?_⟩, ?_⟩
    · refine lv_astore (lv' := [(4, .ref qx), (0, .ref (yX Y)), (1, .int x1), (2, .int x2), (3, .ref oa)]) hx hb dL_ask_17 hl (by decide) rfl (fun ls hl => ?_)
      refine lv_iconst (v := 2) hx hb dL_ask_19 (by decide) ?_
      exact W.iret hx hb hr (fun t ht9 _ => ⟨⟨_, w1, _, rfl, by rw [ht9]; exact hP, ht, hC1⟩, hS.F ht9⟩) hS.2.2 dL_ask_20
    refine List.forall_mem_cons.mpr ⟨⟨[⟨0, 10, 13, 56⟩, ⟨0, 10, 17, 13⟩], ⟨0, 10, 21, 23⟩, [⟨0, 10, 25, 15⟩], htab, (by intro z hz; simp only [List.mem_cons, List.not_mem_nil, or_false] at hz; rcases hz with rfl | rfl <;> first | exact Or.inr ⟨by decide, "java/util/NoSuchElementException", hts _ (List.mem_cons_of_mem _ (lm_ _ (List.mem_of_getElem? (i := 47) rfl))), hT.2.2.2.2 "java/lang/UnsupportedOperationException" (by decide) "java/util/NoSuchElementException" (by decide) (by decide)⟩ | exact Or.inr ⟨by decide, "java/lang/IllegalArgumentException", hts _ (List.mem_cons_of_mem _ (lm_ _ (List.mem_of_getElem? (i := 0) rfl))), hT.2.2.2.2 "java/lang/UnsupportedOperationException" (by decide) "java/lang/IllegalArgumentException" (by decide) (by decide)⟩), by decide, by decide, hts _ (List.mem_cons_of_mem _ (lm_ _ (List.mem_of_getElem? (i := 171) rfl))), va_Nw.use rfl (hT.2.2.1 "java/lang/UnsupportedOperationException" (by decide)), fun qx H locs w1 hP hD hS ht hC1 => ?_⟩, ?_⟩
    · refine lv_astore (lv' := [(4, .ref qx), (0, .ref (yX Y)), (1, .int x1), (2, .int x2), (3, .ref oa)]) hx hb dL_ask_21 hl (by decide) rfl (fun ls hl => ?_)
      refine lv_iconst (v := 3) hx hb dL_ask_23 (by decide) ?_
      exact W.iret hx hb hr (fun t ht9 _ => ⟨⟨_, w1, _, rfl, by rw [ht9]; exact hP, ht, hC1⟩, hS.F ht9⟩) hS.2.2 dL_ask_24
    refine List.forall_mem_cons.mpr ⟨⟨[⟨0, 10, 13, 56⟩, ⟨0, 10, 17, 13⟩, ⟨0, 10, 21, 23⟩], ⟨0, 10, 25, 15⟩, [], htab, (by intro z hz; simp only [List.mem_cons, List.not_mem_nil, or_false] at hz; rcases hz with rfl | rfl | rfl <;> first | exact Or.inr ⟨by decide, "java/util/NoSuchElementException", hts _ (List.mem_cons_of_mem _ (lm_ _ (List.mem_of_getElem? (i := 47) rfl))), hT.2.2.2.2 "java/lang/IllegalStateException" (by decide) "java/util/NoSuchElementException" (by decide) (by decide)⟩ | exact Or.inr ⟨by decide, "java/lang/IllegalArgumentException", hts _ (List.mem_cons_of_mem _ (lm_ _ (List.mem_of_getElem? (i := 0) rfl))), hT.2.2.2.2 "java/lang/IllegalStateException" (by decide) "java/lang/IllegalArgumentException" (by decide) (by decide)⟩ | exact Or.inr ⟨by decide, "java/lang/UnsupportedOperationException", hts _ (List.mem_cons_of_mem _ (lm_ _ (List.mem_of_getElem? (i := 171) rfl))), hT.2.2.2.2 "java/lang/IllegalStateException" (by decide) "java/lang/UnsupportedOperationException" (by decide) (by decide)⟩), by decide, by decide, hts _ (List.mem_cons_of_mem _ (lm_ _ (List.mem_of_getElem? (i := 170) rfl))), va_Nw.use rfl (hT.2.2.1 "java/lang/IllegalStateException" (by decide)), fun qx H locs w1 hP hD hS ht hC1 => ?_⟩, ?_⟩
    · refine lv_astore (lv' := [(4, .ref qx), (0, .ref (yX Y)), (1, .int x1), (2, .int x2), (3, .ref oa)]) hx hb dL_ask_25 hl (by decide) rfl (fun ls hl => ?_)
      refine lv_iconst (v := 4) hx hb dL_ask_27 (by decide) ?_
      exact W.iret hx hb hr (fun t ht9 _ => ⟨⟨_, w1, _, rfl, by rw [ht9]; exact hP, ht, hC1⟩, hS.F ht9⟩) hS.2.2 dL_ask_28
    refine List.forall_mem_cons.mpr ⟨⟨[], ⟨0, 10, 13, 56⟩, [⟨0, 10, 17, 13⟩, ⟨0, 10, 21, 23⟩, ⟨0, 10, 25, 15⟩], htab, (fun _ h => absurd h List.not_mem_nil), by decide, by decide, hts _ (List.mem_cons_of_mem _ (lm_ _ (List.mem_of_getElem? (i := 47) rfl))), va_Nw.use rfl (hT.2.2.1 "java/util/NoSuchElementException" (by decide)), fun qx H locs w1 hP hD hS ht hC1 => ?_⟩, ?_⟩
    · refine lv_astore (lv' := [(4, .ref qx), (0, .ref (yX Y)), (1, .int x1), (2, .int x2), (3, .ref oa)]) hx hb dL_ask_13 hl (by decide) rfl (fun ls hl => ?_)
      refine lv_iconst (v := 1) hx hb dL_ask_15 (by decide) ?_
      exact W.iret hx hb hr (fun t ht9 _ => ⟨⟨_, w1, _, rfl, by rw [ht9]; exact hP, ht, hC1⟩, hS.F ht9⟩) hS.2.2 dL_ask_16
    exact fun q hq => by cases hq
  · intro H locs w1 y hP hD hS ht hC1
    refine lv_i2l (v := y.toInt64) hx hb dL_ask_8 rfl ?_
    refine va_last hx hb hK hP hD hS 0 2 rfl rfl (by unfold vp_in; decide) dL_ask_9 (fun H locs hP hD hS => ?_)
    rw [my_upd0] at hP
    have hP : va_P D vwCl ((oa, .inl (cy 2, 1, .inr (.inl (vp_updL f 0 y.toInt64)))) :: w1) H := hP
    refine lv_goto (tgt := 29) hx hb dL_ask_10 (by decide) ?_
    refine lv_iconst (v := 0) hx hb dL_ask_29 (by decide) ?_
    exact W.iret hx hb hr (fun t ht9 _ => ⟨⟨_, w1, _, rfl, by rw [ht9]; exact hP, ht, hC1⟩, hS.F ht9⟩) hS.2.2 dL_ask_30


set_option maxRecDepth 100000 in
set_option maxHeartbeats 4000000 in
theorem ws_cancel (l : Launch) (D : va_G) (cy : Nat → ClassId) (hst : l.stackTraces = false) {ad τ : List Nat} {w : va_W} {B : Int} (sz oa : Nat) (f : Nat → Int64) (hs : vi_s1 vSG τ) {x0 q0 : Nat} (hr1 : ad[q0]? = some x0) (hC : CS cy ad τ x0 w B) (x1 : Int32) : vw_MS l D cy ad τ oa x0 f w B sz yL_cancel (Cond.codeWith yL_cancel cL_cancel 4 (some .int) [(0, 9, 12, 56), (0, 9, 15, 23)] :: lWall) 8 2 134 [.ref x0, .int x1, .ref oa] := by
  obtain ⟨Y, σ, rfl, rfl, hV, hI⟩ := hC
  have hw0 : (cwL cy ad σ)[q0]? = some (yX Y, .inr (14, sgVs σ (yX Y) 0 (sgC 14))) := (cwL_at hr1).trans (by rw [sgE_ob (ci := 14) hV.2.1.1 (by decide)])
  refine wr_ofW (cc := cL_cancel) (maxL := 4) (ret := (some .int)) (hh := [(0, 9, 12, 56), (0, 9, 15, 23)]) (lv := [(0, .ref (yX Y)), (1, .int x1), (2, .ref oa)]) (by decide) rfl (Nat.le_of_ble_eq_true rfl) rfl ?_
  intro p e s m below meth c ls hx hb hr hml hown hlocks htab hts hv hl
  have hown : s.vm.findClass RL = some m.cls := hown
  obtain ⟨⟨⟨hsz, hP, hD0⟩, hK, hN⟩, hT⟩ := hv
  subst hsz
  have hD := hD0.self (sz := s.heap.size)
  generalize hAe : va_A ((oa, .inl (cy 2, 1, .inr (.inl f))) :: cwL cy ad σ) s.heap.size = A at hD hT ⊢
  have hA : ∀ q : Nat, s.heap.size ≤ q → A q := fun q h => by rw [← hAe]; exact Or.inr h
  have hS : va_S A s.heap s.heap [] := va_S.rf
  have hP : va_P D vwCl ([(oa, .inl (cy 2, 1, .inr (.inl f)))] ++ cwL cy ad σ) s.heap := hP
  have hD : va_D A ([(oa, .inl (cy 2, 1, .inr (.inl f)))] ++ cwL cy ad σ) := hD
  have S : CallFix p m c cL_cancel 4 s _ (_ :: lWall) RL := ⟨hx, hb, hml, hown, hts⟩
  refine lv_aload_n hx hb dL_cancel_0 rfl (lv_at hl 2 rfl) ?_
  refine lv_iconst (v := 0) hx hb dL_cancel_1 (by decide) ?_
  refine lv_aload_n hx hb dL_cancel_2 rfl (lv_at hl 0 rfl) ?_
  refine lv_iload_n hx hb dL_cancel_3 rfl (lv_at hl 1 rfl) ?_
  refine cl_catch (wr := [(oa, .inl (cy 2, 1, .inr (.inl f)))]) (b := yX Y) (As := [.int x1]) (rest := [.int 0, .ref oa]) S hV hI (k_canc l D cy hst hs hV hI x1  _) (cwV 1 S.2.2.2.2 (lgV (lm_ _ (List.mem_of_getElem? (i := 119) rfl)) (lm_ _ (List.mem_of_getElem? (i := 120) rfl)) (lm_ _ (List.mem_of_getElem? (i := 121) rfl)) (lv_ _ (vm_4 _ (List.mem_of_getElem? (i := 20) rfl))) (lv_ _ (vm_8 _ (List.mem_of_getElem? (i := 29) rfl)))) rfl rfl rfl ⟨rfl, by decide, by decide, by decide +kernel⟩ ⟨Nat.le_of_ble_eq_true rfl, Nat.le_of_ble_eq_true rfl⟩) rfl (va_recv hK hP.right (ci := 14) rfl hw0) hK hN hT hP hD hS hA hl.1 rfl (Nat.le_of_ble_eq_true rfl) dL_cancel_4 ⟨Nat.le_of_ble_eq_true rfl, Nat.le_of_ble_eq_true rfl⟩ ?_ ?_
  · refine List.forall_mem_cons.mpr ⟨⟨[⟨0, 9, 12, 56⟩], ⟨0, 9, 15, 23⟩, [], htab, (by intro z hz; simp only [List.mem_cons, List.not_mem_nil, or_false] at hz; subst hz; exact Or.inr ⟨by decide, "java/util/NoSuchElementException", hts _ (List.mem_cons_of_mem _ (lm_ _ (List.mem_of_getElem? (i := 47) rfl))), hT.2.2.2.2 "java/lang/UnsupportedOperationException" (by decide) "java/util/NoSuchElementException" (by decide) (by decide)⟩), by decide, by decide, hts _ (List.mem_cons_of_mem _ (lm_ _ (List.mem_of_getElem? (i := 171) rfl))), va_Nw.use rfl (hT.2.2.1 "java/lang/UnsupportedOperationException" (by decide)), fun qx H locs w1 hP hD hS ht hC1 => ?_⟩, ?_⟩
    · refine lv_astore_n (lv' := [(3, .ref qx), (0, .ref (yX Y)), (1, .int x1), (2, .ref oa)]) hx hb dL_cancel_15 rfl hl (by decide) rfl (fun ls hl => ?_)
      refine lv_iconst (v := 2) hx hb dL_cancel_16 (by decide) ?_
      exact W.iret hx hb hr (fun t ht9 _ => ⟨⟨_, w1, _, rfl, by rw [ht9]; exact hP, ht, hC1⟩, hS.F ht9⟩) hS.2.2 dL_cancel_17
    refine List.forall_mem_cons.mpr ⟨⟨[], ⟨0, 9, 12, 56⟩, [⟨0, 9, 15, 23⟩], htab, (fun _ h => absurd h List.not_mem_nil), by decide, by decide, hts _ (List.mem_cons_of_mem _ (lm_ _ (List.mem_of_getElem? (i := 47) rfl))), va_Nw.use rfl (hT.2.2.1 "java/util/NoSuchElementException" (by decide)), fun qx H locs w1 hP hD hS ht hC1 => ?_⟩, ?_⟩
    · refine lv_astore_n (lv' := [(3, .ref qx), (0, .ref (yX Y)), (1, .int x1), (2, .ref oa)]) hx hb dL_cancel_12 rfl hl (by decide) rfl (fun ls hl => ?_)
      refine lv_iconst (v := 1) hx hb dL_cancel_13 (by decide) ?_
      exact W.iret hx hb hr (fun t ht9 _ => ⟨⟨_, w1, _, rfl, by rw [ht9]; exact hP, ht, hC1⟩, hS.F ht9⟩) hS.2.2 dL_cancel_14
    exact fun q hq => by cases hq
  · intro H locs w1 y hP hD hS ht hC1
    refine lv_i2l (v := y.toInt64) hx hb dL_cancel_7 rfl ?_
    refine va_last hx hb hK hP hD hS 0 2 rfl rfl (by unfold vp_in; decide) dL_cancel_8 (fun H locs hP hD hS => ?_)
    rw [my_upd0] at hP
    have hP : va_P D vwCl ((oa, .inl (cy 2, 1, .inr (.inl (vp_updL f 0 y.toInt64)))) :: w1) H := hP
    refine lv_goto (tgt := 18) hx hb dL_cancel_9 (by decide) ?_
    refine lv_iconst (v := 0) hx hb dL_cancel_18 (by decide) ?_
    exact W.iret hx hb hr (fun t ht9 _ => ⟨⟨_, w1, _, rfl, by rw [ht9]; exact hP, ht, hC1⟩, hS.F ht9⟩) hS.2.2 dL_cancel_19


set_option maxRecDepth 100000 in
set_option maxHeartbeats 4000000 in
theorem ws_load (l : Launch) (D : va_G) (cy : Nat → ClassId) (hst : l.stackTraces = false) {ad τ : List Nat} {w : va_W} {B : Int} (sz oa : Nat) (f : Nat → Int64) (hs : vi_s1 vSG τ) {x0 q0 : Nat} (hr1 : ad[q0]? = some x0) (hC : CS cy ad τ x0 w B) (x1 : Int32) (x2 : Int32) : vw_MS l D cy ad τ oa x0 f w B sz yL_load (Cond.codeWith yL_load cL_load 5 (some .int) [(0, 10, 13, 21), (0, 10, 17, 23), (0, 10, 21, 15)] :: lWall) 8 3 135 [.ref x0, .int x1, .int x2, .ref oa] := by
  obtain ⟨Y, σ, rfl, rfl, hV, hI⟩ := hC
  have hw0 : (cwL cy ad σ)[q0]? = some (yX Y, .inr (14, sgVs σ (yX Y) 0 (sgC 14))) := (cwL_at hr1).trans (by rw [sgE_ob (ci := 14) hV.2.1.1 (by decide)])
  refine wr_ofW (cc := cL_load) (maxL := 5) (ret := (some .int)) (hh := [(0, 10, 13, 21), (0, 10, 17, 23), (0, 10, 21, 15)]) (lv := [(0, .ref (yX Y)), (1, .int x1), (2, .int x2), (3, .ref oa)]) (by decide) rfl (Nat.le_of_ble_eq_true rfl) rfl ?_
  intro p e s m below meth c ls hx hb hr hml hown hlocks htab hts hv hl
  have hown : s.vm.findClass RL = some m.cls := hown
  obtain ⟨⟨⟨hsz, hP, hD0⟩, hK, hN⟩, hT⟩ := hv
  subst hsz
  have hD := hD0.self (sz := s.heap.size)
  generalize hAe : va_A ((oa, .inl (cy 2, 1, .inr (.inl f))) :: cwL cy ad σ) s.heap.size = A at hD hT ⊢
  have hA : ∀ q : Nat, s.heap.size ≤ q → A q := fun q h => by rw [← hAe]; exact Or.inr h
  have hS : va_S A s.heap s.heap [] := va_S.rf
  have hP : va_P D vwCl ([(oa, .inl (cy 2, 1, .inr (.inl f)))] ++ cwL cy ad σ) s.heap := hP
  have hD : va_D A ([(oa, .inl (cy 2, 1, .inr (.inl f)))] ++ cwL cy ad σ) := hD
  have S : CallFix p m c cL_load 5 s _ (_ :: lWall) RL := ⟨hx, hb, hml, hown, hts⟩
  refine lv_aload_n hx hb dL_load_0 rfl (lv_at hl 3 rfl) ?_
  refine lv_iconst (v := 0) hx hb dL_load_1 (by decide) ?_
  refine lv_aload_n hx hb dL_load_2 rfl (lv_at hl 0 rfl) ?_
  refine lv_iload_n hx hb dL_load_3 rfl (lv_at hl 1 rfl) ?_
  refine lv_iload_n hx hb dL_load_4 rfl (lv_at hl 2 rfl) ?_
  refine cl_catch (wr := [(oa, .inl (cy 2, 1, .inr (.inl f)))]) (b := yX Y) (As := [.int x1, .int x2]) (rest := [.int 0, .ref oa]) S hV hI (k_load l D cy hst hs hV hI x1 x2  _) (cwV 2 S.2.2.2.2 (lgV (lm_ _ (List.mem_of_getElem? (i := 122) rfl)) (lm_ _ (List.mem_of_getElem? (i := 123) rfl)) (lm_ _ (List.mem_of_getElem? (i := 124) rfl)) (lv_ _ (vm_4 _ (List.mem_of_getElem? (i := 20) rfl))) (lv_ _ (vm_8 _ (List.mem_of_getElem? (i := 30) rfl)))) rfl rfl rfl ⟨rfl, by decide, by decide, by decide +kernel⟩ ⟨Nat.le_of_ble_eq_true rfl, Nat.le_of_ble_eq_true rfl⟩) rfl (va_recv hK hP.right (ci := 14) rfl hw0) hK hN hT hP hD hS hA hl.1 rfl (Nat.le_of_ble_eq_true rfl) dL_load_5 ⟨Nat.le_of_ble_eq_true rfl, Nat.le_of_ble_eq_true rfl⟩ ?_ ?_
  · refine List.forall_mem_cons.mpr ⟨⟨[⟨0, 10, 13, 21⟩], ⟨0, 10, 17, 23⟩, [⟨0, 10, 21, 15⟩], htab, (by intro z hz; simp only [List.mem_cons, List.not_mem_nil, or_false] at hz; subst hz; exact Or.inr ⟨by decide, "java/lang/IndexOutOfBoundsException", hts _ (List.mem_cons_of_mem _ (lm_ _ (List.mem_of_getElem? (i := 5) rfl))), hT.2.2.2.2 "java/lang/UnsupportedOperationException" (by decide) "java/lang/IndexOutOfBoundsException" (by decide) (by decide)⟩), by decide, by decide, hts _ (List.mem_cons_of_mem _ (lm_ _ (List.mem_of_getElem? (i := 171) rfl))), va_Nw.use rfl (hT.2.2.1 "java/lang/UnsupportedOperationException" (by decide)), fun qx H locs w1 hP hD hS ht hC1 => ?_⟩, ?_⟩
    · refine lv_astore (lv' := [(4, .ref qx), (0, .ref (yX Y)), (1, .int x1), (2, .int x2), (3, .ref oa)]) hx hb dL_load_17 hl (by decide) rfl (fun ls hl => ?_)
      refine lv_iconst (v := 2) hx hb dL_load_19 (by decide) ?_
      exact W.iret hx hb hr (fun t ht9 _ => ⟨⟨_, w1, _, rfl, by rw [ht9]; exact hP, ht, hC1⟩, hS.F ht9⟩) hS.2.2 dL_load_20
    refine List.forall_mem_cons.mpr ⟨⟨[⟨0, 10, 13, 21⟩, ⟨0, 10, 17, 23⟩], ⟨0, 10, 21, 15⟩, [], htab, (by intro z hz; simp only [List.mem_cons, List.not_mem_nil, or_false] at hz; rcases hz with rfl | rfl <;> first | exact Or.inr ⟨by decide, "java/lang/IndexOutOfBoundsException", hts _ (List.mem_cons_of_mem _ (lm_ _ (List.mem_of_getElem? (i := 5) rfl))), hT.2.2.2.2 "java/lang/IllegalStateException" (by decide) "java/lang/IndexOutOfBoundsException" (by decide) (by decide)⟩ | exact Or.inr ⟨by decide, "java/lang/UnsupportedOperationException", hts _ (List.mem_cons_of_mem _ (lm_ _ (List.mem_of_getElem? (i := 171) rfl))), hT.2.2.2.2 "java/lang/IllegalStateException" (by decide) "java/lang/UnsupportedOperationException" (by decide) (by decide)⟩), by decide, by decide, hts _ (List.mem_cons_of_mem _ (lm_ _ (List.mem_of_getElem? (i := 170) rfl))), va_Nw.use rfl (hT.2.2.1 "java/lang/IllegalStateException" (by decide)), fun qx H locs w1 hP hD hS ht hC1 => ?_⟩, ?_⟩
    · refine lv_astore (lv' := [(4, .ref qx), (0, .ref (yX Y)), (1, .int x1), (2, .int x2), (3, .ref oa)]) hx hb dL_load_21 hl (by decide) rfl (fun ls hl => ?_)
      refine lv_iconst (v := 3) hx hb dL_load_23 (by decide) ?_
      exact W.iret hx hb hr (fun t ht9 _ => ⟨⟨_, w1, _, rfl, by rw [ht9]; exact hP, ht, hC1⟩, hS.F ht9⟩) hS.2.2 dL_load_24
    refine List.forall_mem_cons.mpr ⟨⟨[], ⟨0, 10, 13, 21⟩, [⟨0, 10, 17, 23⟩, ⟨0, 10, 21, 15⟩], htab, (fun _ h => absurd h List.not_mem_nil), by decide, by decide, hts _ (List.mem_cons_of_mem _ (lm_ _ (List.mem_of_getElem? (i := 5) rfl))), va_Nw.use rfl (hT.2.2.1 "java/lang/IndexOutOfBoundsException" (by decide)), fun qx H locs w1 hP hD hS ht hC1 => ?_⟩, ?_⟩
    · refine lv_astore (lv' := [(4, .ref qx), (0, .ref (yX Y)), (1, .int x1), (2, .int x2), (3, .ref oa)]) hx hb dL_load_13 hl (by decide) rfl (fun ls hl => ?_)
      refine lv_iconst (v := 1) hx hb dL_load_15 (by decide) ?_
      exact W.iret hx hb hr (fun t ht9 _ => ⟨⟨_, w1, _, rfl, by rw [ht9]; exact hP, ht, hC1⟩, hS.F ht9⟩) hS.2.2 dL_load_16
    exact fun q hq => by cases hq
  · intro H locs w1 y hP hD hS ht hC1
    refine lv_i2l (v := y.toInt64) hx hb dL_load_8 rfl ?_
    refine va_last hx hb hK hP hD hS 0 2 rfl rfl (by unfold vp_in; decide) dL_load_9 (fun H locs hP hD hS => ?_)
    rw [my_upd0] at hP
    have hP : va_P D vwCl ((oa, .inl (cy 2, 1, .inr (.inl (vp_updL f 0 y.toInt64)))) :: w1) H := hP
    refine lv_goto (tgt := 25) hx hb dL_load_10 (by decide) ?_
    refine lv_iconst (v := 0) hx hb dL_load_25 (by decide) ?_
    exact W.iret hx hb hr (fun t ht9 _ => ⟨⟨_, w1, _, rfl, by rw [ht9]; exact hP, ht, hC1⟩, hS.F ht9⟩) hS.2.2 dL_load_26
end CSX
