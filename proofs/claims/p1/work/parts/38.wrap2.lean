set_option maxRecDepth 100000 in
set_option maxHeartbeats 4000000 in
theorem w_driver_1 (l : Launch) (D : va_G) (cy : Nat → ClassId) {ad : Nat → Nat} {rw_ : Nat → Nat → Option Nat} {w : va_W} (F : FrC cy ad rw_ w) (hst : l.stackTraces = false) (oa : Nat) (f : Nat → Int64) (sz : Nat) (a b : Int32) (h : ¬ ((¬ a < 0 ∧ ¬ 9 < a) ∧ (¬ b < -1 ∧ ¬ 9 < b))) : MW l D cy ((oa, .inl (cy 2, 1, .inr (.inl f))) :: w) sz yL_driver (wsL_driver ++ exW) 7 1 6 104 [.ref (ad 0), .int a, .int b, .ref oa] (some (.int 1)) (fun _ => True) := by
  refine wr_ofW (cc := cL_driver) (maxL := 5) (ret := (some .int)) (hh := [(0, 10, 13, 13), (0, 10, 17, 15)]) (lv := [(0, .ref (ad 0)), (1, .int a), (2, .int b), (3, .ref oa)]) (by decide) rfl (Nat.le_of_ble_eq_true rfl) rfl ?_
  intro p e s m below meth c ls hx hb hr hml hown hlocks htab hts hv hl
  have hown : s.vm.findClass RL = some m.cls := hown
  obtain ⟨⟨⟨hsz, hP, hD0⟩, hK, hN⟩, hT⟩ := hv
  subst hsz
  have hS : va_S (fun _ => False) s.heap s.heap [] := va_S.rf
  have F := frc_mono F (fun q hq => List.mem_cons_of_mem (oa, .inl (cy 2, 1, .inr (.inl f))) hq)
  refine lv_aload_n hx hb dL_driver_0 rfl (lv_at hl 3 rfl) ?_
  refine lv_iconst (v := 0) hx hb dL_driver_1 (by decide) ?_
  refine lv_aload_n hx hb dL_driver_2 rfl (lv_at hl 0 rfl) ?_
  refine lv_iload_n hx hb dL_driver_3 rfl (lv_at hl 1 rfl) ?_
  refine lv_iload_n hx hb dL_driver_4 rfl (lv_at hl 2 rfl) ?_
  obtain ⟨k_1, hk_1⟩ := frc_hub F
  refine th_catchV (As := [.int a, .int b]) (rest := [.int 0, .ref oa]) ⟨hx, hb, hml, hown, hts⟩ (c_driver_x1 l D cy F hst a b h) (cwV 2 hts (goodL gL_driver_X9_driver) rfl rfl rfl (by decide +kernel) ⟨by decide, by decide⟩) hK hN hP hT hS (ci := 14) (q0 := k_1) rfl hk_1 rfl rfl hl.1 rfl (Nat.le_of_ble_eq_true rfl) dL_driver_5 ⟨Nat.le_of_ble_eq_true rfl, Nat.le_of_ble_eq_true rfl⟩ [] ⟨0, 10, 13, 13⟩ [⟨0, 10, 17, 15⟩] htab (fun _ h => absurd h List.not_mem_nil) (by decide) (by decide) (hts _ (List.mem_append_right _ exW_13)) (va_Nw.use rfl (hT.2.2.1 "java/lang/IllegalArgumentException" (by decide))) (fun qx H locs hS => ?_)
  refine lv_astore (lv' := [(4, .ref qx), (0, .ref (ad 0)), (1, .int a), (2, .int b), (3, .ref oa)]) hx hb dL_driver_13 hl (by decide) rfl (fun ls hl => ?_)
  refine lv_iconst (v := 1) hx hb dL_driver_15 (by decide) ?_
  refine W.widen (k := 1) (n := 6) (Nat.le_of_ble_eq_true rfl) (Nat.le_of_ble_eq_true rfl) ?_
  exact W.iret hx hb hr (fun t ht hW => ⟨rfl, trivial, hS.F2 ht⟩) (fun z hz => (hS.2.2 z hz).elim) dL_driver_16

set_option maxRecDepth 100000 in
set_option maxHeartbeats 4000000 in
theorem w_driver_0 (l : Launch) (D : va_G) (cy : Nat → ClassId) {ad : Nat → Nat} {rw_ : Nat → Nat → Option Nat} {w : va_W} (F : FrC cy ad rw_ w) (oa : Nat) (f : Nat → Int64) (sz : Nat) (a b : Int32) (h1 : ¬ a < 0 ∧ ¬ 9 < a) (h2 : ¬ b < -1 ∧ ¬ 9 < b) : MW l D cy ((oa, .inl (cy 2, 1, .inr (.inl f))) :: w) sz yL_driver (wsL_driver ++ exW) 2 0 0 44 [.ref (ad 0), .int a, .int b, .ref oa] (some (.int 0)) (fun H => va_P D vwCl [(oa, .inl (cy 2, 1, .inr (.inl (vp_updL f 0 (0)))))] H) := by
  refine wr_ofW (cc := cL_driver) (maxL := 5) (ret := (some .int)) (hh := [(0, 10, 13, 13), (0, 10, 17, 15)]) (lv := [(0, .ref (ad 0)), (1, .int a), (2, .int b), (3, .ref oa)]) (by decide) rfl (Nat.le_of_ble_eq_true rfl) rfl ?_
  intro p e s m below meth c ls hx hb hr hml hown hlocks htab hts hv hl
  have hown : s.vm.findClass RL = some m.cls := hown
  obtain ⟨⟨⟨hsz, hP, hD0⟩, hK, hN⟩, hT⟩ := hv
  subst hsz
  have hD := hD0.self (sz := s.heap.size)
  generalize hAe : va_A ((oa, .inl (cy 2, 1, .inr (.inl f))) :: w) s.heap.size = A at hD ⊢
  have hA : ∀ q : Nat, s.heap.size ≤ q → A q := fun q h => by rw [← hAe]; exact Or.inr h
  have hS : va_S A s.heap s.heap [] := va_S.rf
  have hP : va_P D vwCl ([(oa, .inl (cy 2, 1, .inr (.inl f)))] ++ w) s.heap := hP
  have hD : va_D A ([(oa, .inl (cy 2, 1, .inr (.inl f)))] ++ w) := hD
  refine lv_aload_n hx hb dL_driver_0 rfl (lv_at hl 3 rfl) ?_
  refine lv_iconst (v := 0) hx hb dL_driver_1 (by decide) ?_
  refine lv_aload_n hx hb dL_driver_2 rfl (lv_at hl 0 rfl) ?_
  refine lv_iload_n hx hb dL_driver_3 rfl (lv_at hl 1 rfl) ?_
  refine lv_iload_n hx hb dL_driver_4 rfl (lv_at hl 2 rfl) ?_
  obtain ⟨k_1, hk_1⟩ := frc_hub F
  refine me_callV (wr := [(oa, .inl (cy 2, 1, .inr (.inl f)))]) (wc := w) (As := [.int a, .int b]) (rest := [.int 0, .ref oa]) ⟨hx, hb, hml, hown, hts⟩ (m_driver_w l D cy F _ a b h1 h2) (cwV 2 hts (goodL gL_driver_X9_driver) rfl rfl rfl (by decide +kernel) ⟨by decide, by decide⟩) hK hN hP hD hS hA (ci := 14) (q0 := k_1) rfl hk_1 rfl rfl hl.1 rfl (Nat.le_of_ble_eq_true rfl) dL_driver_5 ⟨Nat.le_of_ble_eq_true rfl, Nat.le_of_ble_eq_true rfl⟩ (fun H locs hB hJ hS => ?_)
  obtain ⟨hP, hD⟩ := hJ [] (fun k q h => by simp at h) ⟨fun i j p q h => by simp at h, fun k q h => by simp at h⟩
  have hP : va_P D vwCl [(oa, .inl (cy 2, 1, .inr (.inl f)))] H := hP
  have hD : va_D A [(oa, .inl (cy 2, 1, .inr (.inl f)))] := hD
  refine lv_i2l (v := 0) hx hb dL_driver_8 (by decide) ?_
  refine va_last hx hb hK hP hD hS 0 2 rfl rfl (by unfold vp_in; decide) dL_driver_9 (fun H locs hP hD hS => ?_)
  rw [my_upd0] at hP
  have hB := my_one (ko := 0) hP rfl
  refine lv_goto (tgt := 21) hx hb dL_driver_10 (by decide) ?_
  refine lv_iconst (v := 0) hx hb dL_driver_21 (by decide) ?_
  exact W.iret hx hb hr (fun t ht hW => ⟨rfl, by rw [ht]; exact hB, hS.F ht⟩) hS.2.2 dL_driver_22

set_option maxRecDepth 100000 in
set_option maxHeartbeats 4000000 in
theorem w_draw_1 (l : Launch) (D : va_G) (cy : Nat → ClassId) {ad : Nat → Nat} {rw_ : Nat → Nat → Option Nat} {w : va_W} (F : FrC cy ad rw_ w) (hst : l.stackTraces = false) (oa : Nat) (f : Nat → Int64) (sz : Nat) (d n : Int32) : MW l D cy ((oa, .inl (cy 2, 1, .inr (.inl f))) :: w) sz yL_draw (wsL_draw ++ exW) 9 1 6 148 [.ref (ad 0), .int d, .int n, .ref oa] (some (.int 1)) (fun _ => True) := by
  refine wr_ofW (cc := cL_draw) (maxL := 5) (ret := (some .int)) (hh := [(0, 10, 13, 21), (0, 10, 17, 13)]) (lv := [(0, .ref (ad 0)), (1, .int d), (2, .int n), (3, .ref oa)]) (by decide) rfl (Nat.le_of_ble_eq_true rfl) rfl ?_
  intro p e s m below meth c ls hx hb hr hml hown hlocks htab hts hv hl
  have hown : s.vm.findClass RL = some m.cls := hown
  obtain ⟨⟨⟨hsz, hP, hD0⟩, hK, hN⟩, hT⟩ := hv
  subst hsz
  have hS : va_S (fun _ => False) s.heap s.heap [] := va_S.rf
  have F := frc_mono F (fun q hq => List.mem_cons_of_mem (oa, .inl (cy 2, 1, .inr (.inl f))) hq)
  refine lv_aload_n hx hb dL_draw_0 rfl (lv_at hl 3 rfl) ?_
  refine lv_iconst (v := 0) hx hb dL_draw_1 (by decide) ?_
  refine lv_aload_n hx hb dL_draw_2 rfl (lv_at hl 0 rfl) ?_
  refine lv_iload_n hx hb dL_draw_3 rfl (lv_at hl 1 rfl) ?_
  refine lv_iload_n hx hb dL_draw_4 rfl (lv_at hl 2 rfl) ?_
  obtain ⟨k_1, hk_1⟩ := frc_hub F
  refine th_catchV (As := [.int d, .int n]) (rest := [.int 0, .ref oa]) ⟨hx, hb, hml, hown, hts⟩ (c_draw_x1 l D cy F hst d n) (cwV 2 hts (goodL gL_draw_X9_draw) rfl rfl rfl (by decide +kernel) ⟨by decide, by decide⟩) hK hN hP hT hS (ci := 14) (q0 := k_1) rfl hk_1 rfl rfl hl.1 rfl (Nat.le_of_ble_eq_true rfl) dL_draw_5 ⟨Nat.le_of_ble_eq_true rfl, Nat.le_of_ble_eq_true rfl⟩ [] ⟨0, 10, 13, 21⟩ [⟨0, 10, 17, 13⟩] htab (fun _ h => absurd h List.not_mem_nil) (by decide) (by decide) (hts _ (List.mem_append_right _ exW_21)) (va_Nw.use rfl (hT.2.2.1 "java/lang/IndexOutOfBoundsException" (by decide))) (fun qx H locs hS => ?_)
  refine lv_astore (lv' := [(4, .ref qx), (0, .ref (ad 0)), (1, .int d), (2, .int n), (3, .ref oa)]) hx hb dL_draw_13 hl (by decide) rfl (fun ls hl => ?_)
  refine lv_iconst (v := 1) hx hb dL_draw_15 (by decide) ?_
  refine W.widen (k := 1) (n := 6) (Nat.le_of_ble_eq_true rfl) (Nat.le_of_ble_eq_true rfl) ?_
  exact W.iret hx hb hr (fun t ht hW => ⟨rfl, trivial, hS.F2 ht⟩) (fun z hz => (hS.2.2 z hz).elim) dL_draw_16

set_option maxRecDepth 100000 in
set_option maxHeartbeats 4000000 in
theorem w_five_0 (l : Launch) (D : va_G) (cy : Nat → ClassId) {ad : Nat → Nat} {rw_ : Nat → Nat → Option Nat} {w : va_W} (F : FrC cy ad rw_ w) (oa : Nat) (f : Nat → Int64) (sz : Nat) (b : Int32) (hw : ¬ b < 0 ∧ ¬ 2047 < b) : MW l D cy ((oa, .inl (cy 2, 1, .inr (.inl f))) :: w) sz yL_five (wsL_five ++ exW) 2 0 0 48 [.ref (ad 0), .int b, .ref oa] (some (.int 0)) (fun H => va_P D vwCl [(oa, .inl (cy 2, 1, .inr (.inl (vp_updL f 0 ((31 - ck5s b 11).toInt64)))))] H) := by
  refine wr_ofW (cc := cL_five) (maxL := 4) (ret := (some .int)) (hh := [(0, 9, 12, 13)]) (lv := [(0, .ref (ad 0)), (1, .int b), (2, .ref oa)]) (by decide) rfl (Nat.le_of_ble_eq_true rfl) rfl ?_
  intro p e s m below meth c ls hx hb hr hml hown hlocks htab hts hv hl
  have hown : s.vm.findClass RL = some m.cls := hown
  obtain ⟨⟨⟨hsz, hP, hD0⟩, hK, hN⟩, hT⟩ := hv
  subst hsz
  have hD := hD0.self (sz := s.heap.size)
  generalize hAe : va_A ((oa, .inl (cy 2, 1, .inr (.inl f))) :: w) s.heap.size = A at hD ⊢
  have hA : ∀ q : Nat, s.heap.size ≤ q → A q := fun q h => by rw [← hAe]; exact Or.inr h
  have hS : va_S A s.heap s.heap [] := va_S.rf
  have F := frc_mono F (fun q hq => List.mem_cons_of_mem (oa, .inl (cy 2, 1, .inr (.inl f))) hq)
  refine lv_aload_n hx hb dL_five_0 rfl (lv_at hl 2 rfl) ?_
  refine lv_iconst (v := 0) hx hb dL_five_1 (by decide) ?_
  refine lv_aload_n hx hb dL_five_2 rfl (lv_at hl 0 rfl) ?_
  refine lv_iload_n hx hb dL_five_3 rfl (lv_at hl 1 rfl) ?_
  obtain ⟨k_1, hk_1⟩ := frc_hub F
  refine ro_callV (As := [.int b]) (rest := [.int 0, .ref oa]) ⟨hx, hb, hml, hown, hts⟩ (c_five_ok l D cy F b hw) (cwV 1 hts (goodL gL_five_X9_five) rfl rfl rfl (by decide +kernel) ⟨by decide, by decide⟩) hK hN hP hS (ci := 14) rfl hk_1 rfl rfl hl.1 rfl (Nat.le_of_ble_eq_true rfl) dL_five_4 ⟨Nat.le_of_ble_eq_true rfl, Nat.le_of_ble_eq_true rfl⟩ (fun H locs hP hS => ?_)
  refine lv_i2l (v := (31 - ck5s b 11).toInt64) hx hb dL_five_7 rfl ?_
  refine va_last hx hb hK hP hD hS 0 2 rfl rfl (by unfold vp_in; decide) dL_five_8 (fun H locs hP hD hS => ?_)
  rw [my_upd0] at hP
  have hB := my_one (ko := 0) hP rfl
  refine lv_goto (tgt := 15) hx hb dL_five_9 (by decide) ?_
  refine lv_iconst (v := 0) hx hb dL_five_15 (by decide) ?_
  exact W.iret hx hb hr (fun t ht hW => ⟨rfl, by rw [ht]; exact hB, hS.F ht⟩) hS.2.2 dL_five_16

set_option maxRecDepth 100000 in
set_option maxHeartbeats 4000000 in
theorem w_five_1 (l : Launch) (D : va_G) (cy : Nat → ClassId) {ad : Nat → Nat} {rw_ : Nat → Nat → Option Nat} {w : va_W} (F : FrC cy ad rw_ w) (hst : l.stackTraces = false) (oa : Nat) (f : Nat → Int64) (sz : Nat) (n : Int32) (hw : ¬ (¬ n < 0 ∧ ¬ 2047 < n)) : MW l D cy ((oa, .inl (cy 2, 1, .inr (.inl f))) :: w) sz yL_five (wsL_five ++ exW) 7 1 6 105 [.ref (ad 0), .int n, .ref oa] (some (.int 1)) (fun _ => True) := by
  refine wr_ofW (cc := cL_five) (maxL := 4) (ret := (some .int)) (hh := [(0, 9, 12, 13)]) (lv := [(0, .ref (ad 0)), (1, .int n), (2, .ref oa)]) (by decide) rfl (Nat.le_of_ble_eq_true rfl) rfl ?_
  intro p e s m below meth c ls hx hb hr hml hown hlocks htab hts hv hl
  have hown : s.vm.findClass RL = some m.cls := hown
  obtain ⟨⟨⟨hsz, hP, hD0⟩, hK, hN⟩, hT⟩ := hv
  subst hsz
  have hS : va_S (fun _ => False) s.heap s.heap [] := va_S.rf
  have F := frc_mono F (fun q hq => List.mem_cons_of_mem (oa, .inl (cy 2, 1, .inr (.inl f))) hq)
  refine lv_aload_n hx hb dL_five_0 rfl (lv_at hl 2 rfl) ?_
  refine lv_iconst (v := 0) hx hb dL_five_1 (by decide) ?_
  refine lv_aload_n hx hb dL_five_2 rfl (lv_at hl 0 rfl) ?_
  refine lv_iload_n hx hb dL_five_3 rfl (lv_at hl 1 rfl) ?_
  obtain ⟨k_1, hk_1⟩ := frc_hub F
  refine th_catchV (As := [.int n]) (rest := [.int 0, .ref oa]) ⟨hx, hb, hml, hown, hts⟩ (c_five_x1 l D cy F hst n hw) (cwV 1 hts (goodL gL_five_X9_five) rfl rfl rfl (by decide +kernel) ⟨by decide, by decide⟩) hK hN hP hT hS (ci := 14) (q0 := k_1) rfl hk_1 rfl rfl hl.1 rfl (Nat.le_of_ble_eq_true rfl) dL_five_4 ⟨Nat.le_of_ble_eq_true rfl, Nat.le_of_ble_eq_true rfl⟩ [] ⟨0, 9, 12, 13⟩ [] htab (fun _ h => absurd h List.not_mem_nil) (by decide) (by decide) (hts _ (List.mem_append_right _ exW_13)) (va_Nw.use rfl (hT.2.2.1 "java/lang/IllegalArgumentException" (by decide))) (fun qx H locs hS => ?_)
  refine lv_astore_n (lv' := [(3, .ref qx), (0, .ref (ad 0)), (1, .int n), (2, .ref oa)]) hx hb dL_five_12 rfl hl (by decide) rfl (fun ls hl => ?_)
  refine lv_iconst (v := 1) hx hb dL_five_13 (by decide) ?_
  refine W.widen (k := 1) (n := 6) (Nat.le_of_ble_eq_true rfl) (Nat.le_of_ble_eq_true rfl) ?_
  exact W.iret hx hb hr (fun t ht hW => ⟨rfl, trivial, hS.F2 ht⟩) (fun z hz => (hS.2.2 z hz).elim) dL_five_14

set_option maxRecDepth 100000 in
set_option maxHeartbeats 4000000 in
theorem w_type_0 (l : Launch) (D : va_G) (cy : Nat → ClassId) {ad : Nat → Nat} {rw_ : Nat → Nat → Option Nat} {w : va_W} (F : FrC cy ad rw_ w) (oa : Nat) (f : Nat → Int64) (sz : Nat) (v : Int32) (hw : ¬ v < 0 ∧ ¬ 255 < v) : MW l D cy ((oa, .inl (cy 2, 1, .inr (.inl f))) :: w) sz yL_type (wsL_type ++ exW) 2 0 0 43 [.ref (ad 0), .int v, .ref oa] (some (.int 0)) (fun H => va_P D vwCl [(oa, .inl (cy 2, 1, .inr (.inl (vp_updL f 0 (1)))))] H) := by
  refine wr_ofW (cc := cL_type) (maxL := 4) (ret := (some .int)) (hh := [(0, 9, 12, 13), (0, 9, 15, 15)]) (lv := [(0, .ref (ad 0)), (1, .int v), (2, .ref oa)]) (by decide) rfl (Nat.le_of_ble_eq_true rfl) rfl ?_
  intro p e s m below meth c ls hx hb hr hml hown hlocks htab hts hv hl
  have hown : s.vm.findClass RL = some m.cls := hown
  obtain ⟨⟨⟨hsz, hP, hD0⟩, hK, hN⟩, hT⟩ := hv
  subst hsz
  have hD := hD0.self (sz := s.heap.size)
  generalize hAe : va_A ((oa, .inl (cy 2, 1, .inr (.inl f))) :: w) s.heap.size = A at hD ⊢
  have hA : ∀ q : Nat, s.heap.size ≤ q → A q := fun q h => by rw [← hAe]; exact Or.inr h
  have hS : va_S A s.heap s.heap [] := va_S.rf
  have hP : va_P D vwCl ([(oa, .inl (cy 2, 1, .inr (.inl f)))] ++ w) s.heap := hP
  have hD : va_D A ([(oa, .inl (cy 2, 1, .inr (.inl f)))] ++ w) := hD
  refine lv_aload_n hx hb dL_type_0 rfl (lv_at hl 2 rfl) ?_
  refine lv_iconst (v := 0) hx hb dL_type_1 (by decide) ?_
  refine lv_aload_n hx hb dL_type_2 rfl (lv_at hl 0 rfl) ?_
  refine lv_iload_n hx hb dL_type_3 rfl (lv_at hl 1 rfl) ?_
  obtain ⟨k_1, hk_1⟩ := frc_hub F
  refine me_callV (wr := [(oa, .inl (cy 2, 1, .inr (.inl f)))]) (wc := w) (As := [.int v]) (rest := [.int 0, .ref oa]) ⟨hx, hb, hml, hown, hts⟩ (m_type_w l D cy F _ v hw) (cwV 1 hts (goodL gL_type_X9_type) rfl rfl rfl (by decide +kernel) ⟨by decide, by decide⟩) hK hN hP hD hS hA (ci := 14) (q0 := k_1) rfl hk_1 rfl rfl hl.1 rfl (Nat.le_of_ble_eq_true rfl) dL_type_4 ⟨Nat.le_of_ble_eq_true rfl, Nat.le_of_ble_eq_true rfl⟩ (fun H locs hB hJ hS => ?_)
  obtain ⟨hP, hD⟩ := hJ [] (fun k q h => by simp at h) ⟨fun i j p q h => by simp at h, fun k q h => by simp at h⟩
  have hP : va_P D vwCl [(oa, .inl (cy 2, 1, .inr (.inl f)))] H := hP
  have hD : va_D A [(oa, .inl (cy 2, 1, .inr (.inl f)))] := hD
  refine lv_i2l (v := 1) hx hb dL_type_7 (by decide) ?_
  refine va_last hx hb hK hP hD hS 0 2 rfl rfl (by unfold vp_in; decide) dL_type_8 (fun H locs hP hD hS => ?_)
  rw [my_upd0] at hP
  have hB := my_one (ko := 0) hP rfl
  refine lv_goto (tgt := 18) hx hb dL_type_9 (by decide) ?_
  refine lv_iconst (v := 0) hx hb dL_type_18 (by decide) ?_
  exact W.iret hx hb hr (fun t ht hW => ⟨rfl, by rw [ht]; exact hB, hS.F ht⟩) hS.2.2 dL_type_19

set_option maxRecDepth 100000 in
set_option maxHeartbeats 4000000 in
theorem w_type_1 (l : Launch) (D : va_G) (cy : Nat → ClassId) {ad : Nat → Nat} {rw_ : Nat → Nat → Option Nat} {w : va_W} (F : FrC cy ad rw_ w) (hst : l.stackTraces = false) (oa : Nat) (f : Nat → Int64) (sz : Nat) (n : Int32) (hw : ¬ (¬ n < 0 ∧ ¬ 255 < n)) : MW l D cy ((oa, .inl (cy 2, 1, .inr (.inl f))) :: w) sz yL_type (wsL_type ++ exW) 7 1 6 103 [.ref (ad 0), .int n, .ref oa] (some (.int 1)) (fun _ => True) := by
  refine wr_ofW (cc := cL_type) (maxL := 4) (ret := (some .int)) (hh := [(0, 9, 12, 13), (0, 9, 15, 15)]) (lv := [(0, .ref (ad 0)), (1, .int n), (2, .ref oa)]) (by decide) rfl (Nat.le_of_ble_eq_true rfl) rfl ?_
  intro p e s m below meth c ls hx hb hr hml hown hlocks htab hts hv hl
  have hown : s.vm.findClass RL = some m.cls := hown
  obtain ⟨⟨⟨hsz, hP, hD0⟩, hK, hN⟩, hT⟩ := hv
  subst hsz
  have hS : va_S (fun _ => False) s.heap s.heap [] := va_S.rf
  have F := frc_mono F (fun q hq => List.mem_cons_of_mem (oa, .inl (cy 2, 1, .inr (.inl f))) hq)
  refine lv_aload_n hx hb dL_type_0 rfl (lv_at hl 2 rfl) ?_
  refine lv_iconst (v := 0) hx hb dL_type_1 (by decide) ?_
  refine lv_aload_n hx hb dL_type_2 rfl (lv_at hl 0 rfl) ?_
  refine lv_iload_n hx hb dL_type_3 rfl (lv_at hl 1 rfl) ?_
  obtain ⟨k_1, hk_1⟩ := frc_hub F
  refine th_catchV (As := [.int n]) (rest := [.int 0, .ref oa]) ⟨hx, hb, hml, hown, hts⟩ (c_type_x1 l D cy F hst n hw) (cwV 1 hts (goodL gL_type_X9_type) rfl rfl rfl (by decide +kernel) ⟨by decide, by decide⟩) hK hN hP hT hS (ci := 14) (q0 := k_1) rfl hk_1 rfl rfl hl.1 rfl (Nat.le_of_ble_eq_true rfl) dL_type_4 ⟨Nat.le_of_ble_eq_true rfl, Nat.le_of_ble_eq_true rfl⟩ [] ⟨0, 9, 12, 13⟩ [⟨0, 9, 15, 15⟩] htab (fun _ h => absurd h List.not_mem_nil) (by decide) (by decide) (hts _ (List.mem_append_right _ exW_13)) (va_Nw.use rfl (hT.2.2.1 "java/lang/IllegalArgumentException" (by decide))) (fun qx H locs hS => ?_)
  refine lv_astore_n (lv' := [(3, .ref qx), (0, .ref (ad 0)), (1, .int n), (2, .ref oa)]) hx hb dL_type_12 rfl hl (by decide) rfl (fun ls hl => ?_)
  refine lv_iconst (v := 1) hx hb dL_type_13 (by decide) ?_
  refine W.widen (k := 1) (n := 6) (Nat.le_of_ble_eq_true rfl) (Nat.le_of_ble_eq_true rfl) ?_
  exact W.iret hx hb hr (fun t ht hW => ⟨rfl, trivial, hS.F2 ht⟩) (fun z hz => (hS.2.2 z hz).elim) dL_type_14

set_option maxRecDepth 100000 in
set_option maxHeartbeats 4000000 in
theorem w_open_1 (l : Launch) (D : va_G) (cy : Nat → ClassId) {ad : Nat → Nat} {rw_ : Nat → Nat → Option Nat} {w : va_W} (F : FrC cy ad rw_ w) (hst : l.stackTraces = false) (oa : Nat) (f : Nat → Int64) (sz : Nat) (d n q z : Int32) : MW l D cy ((oa, .inl (cy 2, 1, .inr (.inl f))) :: w) sz yL_open (wsL_open ++ exW) 8 1 6 131 [.ref (ad 0), .int d, .int n, .int q, .int z, .ref oa] (some (.int 1)) (fun _ => True) := by
  refine wr_ofW (cc := cL_open) (maxL := 7) (ret := (some .int)) (hh := [(0, 14, 17, 21), (0, 14, 21, 13), (0, 14, 25, 23), (0, 14, 29, 15)]) (lv := [(0, .ref (ad 0)), (1, .int d), (2, .int n), (3, .int q), (4, .int z), (5, .ref oa)]) (by decide) rfl (Nat.le_of_ble_eq_true rfl) rfl ?_
  intro p e s m below meth c ls hx hb hr hml hown hlocks htab hts hv hl
  have hown : s.vm.findClass RL = some m.cls := hown
  obtain ⟨⟨⟨hsz, hP, hD0⟩, hK, hN⟩, hT⟩ := hv
  subst hsz
  have hS : va_S (fun _ => False) s.heap s.heap [] := va_S.rf
  have F := frc_mono F (fun q hq => List.mem_cons_of_mem (oa, .inl (cy 2, 1, .inr (.inl f))) hq)
  refine lv_aload hx hb dL_open_0 (lv_at hl 5 rfl) ?_
  refine lv_iconst (v := 0) hx hb dL_open_2 (by decide) ?_
  refine lv_aload_n hx hb dL_open_3 rfl (lv_at hl 0 rfl) ?_
  refine lv_iload_n hx hb dL_open_4 rfl (lv_at hl 1 rfl) ?_
  refine lv_iload_n hx hb dL_open_5 rfl (lv_at hl 2 rfl) ?_
  refine lv_iload_n hx hb dL_open_6 rfl (lv_at hl 3 rfl) ?_
  refine lv_iload hx hb dL_open_7 (lv_at hl 4 rfl) ?_
  obtain ⟨k_1, hk_1⟩ := frc_hub F
  refine th_catchV (As := [.int d, .int n, .int q, .int z]) (rest := [.int 0, .ref oa]) ⟨hx, hb, hml, hown, hts⟩ (c_open_x1 l D cy F hst d n q z) (cwV 4 hts (goodL gL_open_X9_open) rfl rfl rfl (by decide +kernel) ⟨by decide, by decide⟩) hK hN hP hT hS (ci := 14) (q0 := k_1) rfl hk_1 rfl rfl hl.1 rfl (Nat.le_of_ble_eq_true rfl) dL_open_9 ⟨Nat.le_of_ble_eq_true rfl, Nat.le_of_ble_eq_true rfl⟩ [] ⟨0, 14, 17, 21⟩ [⟨0, 14, 21, 13⟩, ⟨0, 14, 25, 23⟩, ⟨0, 14, 29, 15⟩] htab (fun _ h => absurd h List.not_mem_nil) (by decide) (by decide) (hts _ (List.mem_append_right _ exW_21)) (va_Nw.use rfl (hT.2.2.1 "java/lang/IndexOutOfBoundsException" (by decide))) (fun qx H locs hS => ?_)
  refine lv_astore (lv' := [(6, .ref qx), (0, .ref (ad 0)), (1, .int d), (2, .int n), (3, .int q), (4, .int z), (5, .ref oa)]) hx hb dL_open_17 hl (by decide) rfl (fun ls hl => ?_)
  refine lv_iconst (v := 1) hx hb dL_open_19 (by decide) ?_
  refine W.widen (k := 1) (n := 6) (Nat.le_of_ble_eq_true rfl) (Nat.le_of_ble_eq_true rfl) ?_
  exact W.iret hx hb hr (fun t ht hW => ⟨rfl, trivial, hS.F2 ht⟩) (fun z hz => (hS.2.2 z hz).elim) dL_open_20

set_option maxRecDepth 100000 in
set_option maxHeartbeats 4000000 in
theorem w_close_1 (l : Launch) (D : va_G) (cy : Nat → ClassId) {ad : Nat → Nat} {rw_ : Nat → Nat → Option Nat} {w : va_W} (F : FrC cy ad rw_ w) (hst : l.stackTraces = false) (oa : Nat) (f : Nat → Int64) (sz : Nat) (n : Int32) : MW l D cy ((oa, .inl (cy 2, 1, .inr (.inl f))) :: w) sz yL_close (wsL_close ++ exW) 8 1 6 124 [.ref (ad 0), .int n, .ref oa] (some (.int 1)) (fun _ => True) := by
  refine wr_ofW (cc := cL_close) (maxL := 4) (ret := (some .int)) (hh := [(0, 9, 12, 56)]) (lv := [(0, .ref (ad 0)), (1, .int n), (2, .ref oa)]) (by decide) rfl (Nat.le_of_ble_eq_true rfl) rfl ?_
  intro p e s m below meth c ls hx hb hr hml hown hlocks htab hts hv hl
  have hown : s.vm.findClass RL = some m.cls := hown
  obtain ⟨⟨⟨hsz, hP, hD0⟩, hK, hN⟩, hT⟩ := hv
  subst hsz
  have hS : va_S (fun _ => False) s.heap s.heap [] := va_S.rf
  have F := frc_mono F (fun q hq => List.mem_cons_of_mem (oa, .inl (cy 2, 1, .inr (.inl f))) hq)
  refine lv_aload_n hx hb dL_close_0 rfl (lv_at hl 2 rfl) ?_
  refine lv_iconst (v := 0) hx hb dL_close_1 (by decide) ?_
  refine lv_aload_n hx hb dL_close_2 rfl (lv_at hl 0 rfl) ?_
  refine lv_iload_n hx hb dL_close_3 rfl (lv_at hl 1 rfl) ?_
  obtain ⟨k_1, hk_1⟩ := frc_hub F
  refine th_catchV (As := [.int n]) (rest := [.int 0, .ref oa]) ⟨hx, hb, hml, hown, hts⟩ (c_close_x1 l D cy F hst n) (cwV 1 hts (goodL gL_close_X9_close) rfl rfl rfl (by decide +kernel) ⟨by decide, by decide⟩) hK hN hP hT hS (ci := 14) (q0 := k_1) rfl hk_1 rfl rfl hl.1 rfl (Nat.le_of_ble_eq_true rfl) dL_close_4 ⟨Nat.le_of_ble_eq_true rfl, Nat.le_of_ble_eq_true rfl⟩ [] ⟨0, 9, 12, 56⟩ [] htab (fun _ h => absurd h List.not_mem_nil) (by decide) (by decide) (hts _ (List.mem_append_right _ exW_56)) (va_Nw.use rfl (hT.2.2.1 "java/util/NoSuchElementException" (by decide))) (fun qx H locs hS => ?_)
  refine lv_astore_n (lv' := [(3, .ref qx), (0, .ref (ad 0)), (1, .int n), (2, .ref oa)]) hx hb dL_close_12 rfl hl (by decide) rfl (fun ls hl => ?_)
  refine lv_iconst (v := 1) hx hb dL_close_13 (by decide) ?_
  refine W.widen (k := 1) (n := 6) (Nat.le_of_ble_eq_true rfl) (Nat.le_of_ble_eq_true rfl) ?_
  exact W.iret hx hb hr (fun t ht hW => ⟨rfl, trivial, hS.F2 ht⟩) (fun z hz => (hS.2.2 z hz).elim) dL_close_14

set_option maxRecDepth 100000 in
set_option maxHeartbeats 4000000 in
theorem w_phaseOf_1 (l : Launch) (D : va_G) (cy : Nat → ClassId) {ad : Nat → Nat} {rw_ : Nat → Nat → Option Nat} {w : va_W} (F : FrC cy ad rw_ w) (hst : l.stackTraces = false) (oa : Nat) (f : Nat → Int64) (sz : Nat) (n : Int32) : MW l D cy ((oa, .inl (cy 2, 1, .inr (.inl f))) :: w) sz yL_phaseOf (wsL_phaseOf ++ exW) 8 1 6 124 [.ref (ad 0), .int n, .ref oa] (some (.int 1)) (fun _ => True) := by
  refine wr_ofW (cc := cL_phaseOf) (maxL := 4) (ret := (some .int)) (hh := [(0, 9, 12, 56)]) (lv := [(0, .ref (ad 0)), (1, .int n), (2, .ref oa)]) (by decide) rfl (Nat.le_of_ble_eq_true rfl) rfl ?_
  intro p e s m below meth c ls hx hb hr hml hown hlocks htab hts hv hl
  have hown : s.vm.findClass RL = some m.cls := hown
  obtain ⟨⟨⟨hsz, hP, hD0⟩, hK, hN⟩, hT⟩ := hv
  subst hsz
  have hS : va_S (fun _ => False) s.heap s.heap [] := va_S.rf
  have F := frc_mono F (fun q hq => List.mem_cons_of_mem (oa, .inl (cy 2, 1, .inr (.inl f))) hq)
  refine lv_aload_n hx hb dL_phaseOf_0 rfl (lv_at hl 2 rfl) ?_
  refine lv_iconst (v := 0) hx hb dL_phaseOf_1 (by decide) ?_
  refine lv_aload_n hx hb dL_phaseOf_2 rfl (lv_at hl 0 rfl) ?_
  refine lv_iload_n hx hb dL_phaseOf_3 rfl (lv_at hl 1 rfl) ?_
  obtain ⟨k_1, hk_1⟩ := frc_hub F
  refine th_catchV (As := [.int n]) (rest := [.int 0, .ref oa]) ⟨hx, hb, hml, hown, hts⟩ (c_phaseOf_x1 l D cy F hst n) (cwV 1 hts (goodL gL_phaseOf_X9_phaseOf) rfl rfl rfl (by decide +kernel) ⟨by decide, by decide⟩) hK hN hP hT hS (ci := 14) (q0 := k_1) rfl hk_1 rfl rfl hl.1 rfl (Nat.le_of_ble_eq_true rfl) dL_phaseOf_4 ⟨Nat.le_of_ble_eq_true rfl, Nat.le_of_ble_eq_true rfl⟩ [] ⟨0, 9, 12, 56⟩ [] htab (fun _ h => absurd h List.not_mem_nil) (by decide) (by decide) (hts _ (List.mem_append_right _ exW_56)) (va_Nw.use rfl (hT.2.2.1 "java/util/NoSuchElementException" (by decide))) (fun qx H locs hS => ?_)
  refine lv_astore_n (lv' := [(3, .ref qx), (0, .ref (ad 0)), (1, .int n), (2, .ref oa)]) hx hb dL_phaseOf_12 rfl hl (by decide) rfl (fun ls hl => ?_)
  refine lv_iconst (v := 1) hx hb dL_phaseOf_13 (by decide) ?_
  refine W.widen (k := 1) (n := 6) (Nat.le_of_ble_eq_true rfl) (Nat.le_of_ble_eq_true rfl) ?_
  exact W.iret hx hb hr (fun t ht hW => ⟨rfl, trivial, hS.F2 ht⟩) (fun z hz => (hS.2.2 z hz).elim) dL_phaseOf_14

set_option maxRecDepth 100000 in
set_option maxHeartbeats 4000000 in
theorem w_send_1 (l : Launch) (D : va_G) (cy : Nat → ClassId) {ad : Nat → Nat} {rw_ : Nat → Nat → Option Nat} {w : va_W} (F : FrC cy ad rw_ w) (hst : l.stackTraces = false) (oa : Nat) (f : Nat → Int64) (sz : Nat) (n : Int32) : MW l D cy ((oa, .inl (cy 2, 1, .inr (.inl f))) :: w) sz yL_send (wsL_send ++ exW) 8 1 6 128 [.ref (ad 0), .int n, .ref oa] (some (.int 1)) (fun _ => True) := by
  refine wr_ofW (cc := cL_send) (maxL := 4) (ret := (some .int)) (hh := [(0, 9, 12, 56), (0, 9, 15, 23), (0, 9, 18, 15)]) (lv := [(0, .ref (ad 0)), (1, .int n), (2, .ref oa)]) (by decide) rfl (Nat.le_of_ble_eq_true rfl) rfl ?_
  intro p e s m below meth c ls hx hb hr hml hown hlocks htab hts hv hl
  have hown : s.vm.findClass RL = some m.cls := hown
  obtain ⟨⟨⟨hsz, hP, hD0⟩, hK, hN⟩, hT⟩ := hv
  subst hsz
  have hS : va_S (fun _ => False) s.heap s.heap [] := va_S.rf
  have F := frc_mono F (fun q hq => List.mem_cons_of_mem (oa, .inl (cy 2, 1, .inr (.inl f))) hq)
  refine lv_aload_n hx hb dL_send_0 rfl (lv_at hl 2 rfl) ?_
  refine lv_iconst (v := 0) hx hb dL_send_1 (by decide) ?_
  refine lv_aload_n hx hb dL_send_2 rfl (lv_at hl 0 rfl) ?_
  refine lv_iload_n hx hb dL_send_3 rfl (lv_at hl 1 rfl) ?_
  obtain ⟨k_1, hk_1⟩ := frc_hub F
  refine th_catchV (As := [.int n]) (rest := [.int 0, .ref oa]) ⟨hx, hb, hml, hown, hts⟩ (c_send_x1 l D cy F hst n) (cwV 1 hts (goodL gL_send_X9_send) rfl rfl rfl (by decide +kernel) ⟨by decide, by decide⟩) hK hN hP hT hS (ci := 14) (q0 := k_1) rfl hk_1 rfl rfl hl.1 rfl (Nat.le_of_ble_eq_true rfl) dL_send_4 ⟨Nat.le_of_ble_eq_true rfl, Nat.le_of_ble_eq_true rfl⟩ [] ⟨0, 9, 12, 56⟩ [⟨0, 9, 15, 23⟩, ⟨0, 9, 18, 15⟩] htab (fun _ h => absurd h List.not_mem_nil) (by decide) (by decide) (hts _ (List.mem_append_right _ exW_56)) (va_Nw.use rfl (hT.2.2.1 "java/util/NoSuchElementException" (by decide))) (fun qx H locs hS => ?_)
  refine lv_astore_n (lv' := [(3, .ref qx), (0, .ref (ad 0)), (1, .int n), (2, .ref oa)]) hx hb dL_send_12 rfl hl (by decide) rfl (fun ls hl => ?_)
  refine lv_iconst (v := 1) hx hb dL_send_13 (by decide) ?_
  refine W.widen (k := 1) (n := 6) (Nat.le_of_ble_eq_true rfl) (Nat.le_of_ble_eq_true rfl) ?_
  exact W.iret hx hb hr (fun t ht hW => ⟨rfl, trivial, hS.F2 ht⟩) (fun z hz => (hS.2.2 z hz).elim) dL_send_14

set_option maxRecDepth 100000 in
set_option maxHeartbeats 4000000 in
theorem w_ring_1 (l : Launch) (D : va_G) (cy : Nat → ClassId) {ad : Nat → Nat} {rw_ : Nat → Nat → Option Nat} {w : va_W} (F : FrC cy ad rw_ w) (hst : l.stackTraces = false) (oa : Nat) (f : Nat → Int64) (sz : Nat) (n : Int32) : MW l D cy ((oa, .inl (cy 2, 1, .inr (.inl f))) :: w) sz yL_ring (wsL_ring ++ exW) 8 1 6 128 [.ref (ad 0), .int n, .ref oa] (some (.int 1)) (fun _ => True) := by
  refine wr_ofW (cc := cL_ring) (maxL := 4) (ret := (some .int)) (hh := [(0, 9, 12, 56)]) (lv := [(0, .ref (ad 0)), (1, .int n), (2, .ref oa)]) (by decide) rfl (Nat.le_of_ble_eq_true rfl) rfl ?_
  intro p e s m below meth c ls hx hb hr hml hown hlocks htab hts hv hl
  have hown : s.vm.findClass RL = some m.cls := hown
  obtain ⟨⟨⟨hsz, hP, hD0⟩, hK, hN⟩, hT⟩ := hv
  subst hsz
  have hS : va_S (fun _ => False) s.heap s.heap [] := va_S.rf
  have F := frc_mono F (fun q hq => List.mem_cons_of_mem (oa, .inl (cy 2, 1, .inr (.inl f))) hq)
  refine lv_aload_n hx hb dL_ring_0 rfl (lv_at hl 2 rfl) ?_
  refine lv_iconst (v := 0) hx hb dL_ring_1 (by decide) ?_
  refine lv_aload_n hx hb dL_ring_2 rfl (lv_at hl 0 rfl) ?_
  refine lv_iload_n hx hb dL_ring_3 rfl (lv_at hl 1 rfl) ?_
  obtain ⟨k_1, hk_1⟩ := frc_hub F
  refine th_catchV (As := [.int n]) (rest := [.int 0, .ref oa]) ⟨hx, hb, hml, hown, hts⟩ (c_ring_x1 l D cy F hst n) (cwV 1 hts (goodL gL_ring_X9_ring) rfl rfl rfl (by decide +kernel) ⟨by decide, by decide⟩) hK hN hP hT hS (ci := 14) (q0 := k_1) rfl hk_1 rfl rfl hl.1 rfl (Nat.le_of_ble_eq_true rfl) dL_ring_4 ⟨Nat.le_of_ble_eq_true rfl, Nat.le_of_ble_eq_true rfl⟩ [] ⟨0, 9, 12, 56⟩ [] htab (fun _ h => absurd h List.not_mem_nil) (by decide) (by decide) (hts _ (List.mem_append_right _ exW_56)) (va_Nw.use rfl (hT.2.2.1 "java/util/NoSuchElementException" (by decide))) (fun qx H locs hS => ?_)
  refine lv_astore_n (lv' := [(3, .ref qx), (0, .ref (ad 0)), (1, .int n), (2, .ref oa)]) hx hb dL_ring_12 rfl hl (by decide) rfl (fun ls hl => ?_)
  refine lv_iconst (v := 1) hx hb dL_ring_13 (by decide) ?_
  refine W.widen (k := 1) (n := 6) (Nat.le_of_ble_eq_true rfl) (Nat.le_of_ble_eq_true rfl) ?_
  exact W.iret hx hb hr (fun t ht hW => ⟨rfl, trivial, hS.F2 ht⟩) (fun z hz => (hS.2.2 z hz).elim) dL_ring_14

set_option maxRecDepth 100000 in
set_option maxHeartbeats 4000000 in
theorem w_isHalted_1 (l : Launch) (D : va_G) (cy : Nat → ClassId) {ad : Nat → Nat} {rw_ : Nat → Nat → Option Nat} {w : va_W} (F : FrC cy ad rw_ w) (hst : l.stackTraces = false) (oa : Nat) (f : Nat → Int64) (sz : Nat) (n : Int32) : MW l D cy ((oa, .inl (cy 2, 1, .inr (.inl f))) :: w) sz yL_isHalted (wsL_isHalted ++ exW) 8 1 6 124 [.ref (ad 0), .int n, .ref oa] (some (.int 1)) (fun _ => True) := by
  refine wr_ofW (cc := cL_isHalted) (maxL := 4) (ret := (some .int)) (hh := [(0, 16, 19, 56)]) (lv := [(0, .ref (ad 0)), (1, .int n), (2, .ref oa)]) (by decide) rfl (Nat.le_of_ble_eq_true rfl) rfl ?_
  intro p e s m below meth c ls hx hb hr hml hown hlocks htab hts hv hl
  have hown : s.vm.findClass RL = some m.cls := hown
  obtain ⟨⟨⟨hsz, hP, hD0⟩, hK, hN⟩, hT⟩ := hv
  subst hsz
  have hS : va_S (fun _ => False) s.heap s.heap [] := va_S.rf
  have F := frc_mono F (fun q hq => List.mem_cons_of_mem (oa, .inl (cy 2, 1, .inr (.inl f))) hq)
  refine lv_aload_n hx hb dL_isHalted_0 rfl (lv_at hl 2 rfl) ?_
  refine lv_iconst (v := 0) hx hb dL_isHalted_1 (by decide) ?_
  refine lv_aload_n hx hb dL_isHalted_2 rfl (lv_at hl 0 rfl) ?_
  refine lv_iload_n hx hb dL_isHalted_3 rfl (lv_at hl 1 rfl) ?_
  obtain ⟨k_1, hk_1⟩ := frc_hub F
  refine th_catchV (As := [.int n]) (rest := [.int 0, .ref oa]) ⟨hx, hb, hml, hown, hts⟩ (c_isHalted_x1 l D cy F hst n) (cwV 1 hts (goodL gL_isHalted_X9_isHalted) rfl rfl rfl (by decide +kernel) ⟨by decide, by decide⟩) hK hN hP hT hS (ci := 14) (q0 := k_1) rfl hk_1 rfl rfl hl.1 rfl (Nat.le_of_ble_eq_true rfl) dL_isHalted_4 ⟨Nat.le_of_ble_eq_true rfl, Nat.le_of_ble_eq_true rfl⟩ [] ⟨0, 16, 19, 56⟩ [] htab (fun _ h => absurd h List.not_mem_nil) (by decide) (by decide) (hts _ (List.mem_append_right _ exW_56)) (va_Nw.use rfl (hT.2.2.1 "java/util/NoSuchElementException" (by decide))) (fun qx H locs hS => ?_)
  refine lv_astore_n (lv' := [(3, .ref qx), (0, .ref (ad 0)), (1, .int n), (2, .ref oa)]) hx hb dL_isHalted_19 rfl hl (by decide) rfl (fun ls hl => ?_)
  refine lv_iconst (v := 1) hx hb dL_isHalted_20 (by decide) ?_
  refine W.widen (k := 1) (n := 6) (Nat.le_of_ble_eq_true rfl) (Nat.le_of_ble_eq_true rfl) ?_
  exact W.iret hx hb hr (fun t ht hW => ⟨rfl, trivial, hS.F2 ht⟩) (fun z hz => (hS.2.2 z hz).elim) dL_isHalted_21

set_option maxRecDepth 100000 in
set_option maxHeartbeats 4000000 in
theorem w_clear_1 (l : Launch) (D : va_G) (cy : Nat → ClassId) {ad : Nat → Nat} {rw_ : Nat → Nat → Option Nat} {w : va_W} (F : FrC cy ad rw_ w) (hst : l.stackTraces = false) (oa : Nat) (f : Nat → Int64) (sz : Nat) (n : Int32) : MW l D cy ((oa, .inl (cy 2, 1, .inr (.inl f))) :: w) sz yL_clear (wsL_clear ++ exW) 8 1 6 125 [.ref (ad 0), .int n, .ref oa] (some (.int 1)) (fun _ => True) := by
  refine wr_ofW (cc := cL_clear) (maxL := 4) (ret := (some .int)) (hh := [(0, 9, 12, 56)]) (lv := [(0, .ref (ad 0)), (1, .int n), (2, .ref oa)]) (by decide) rfl (Nat.le_of_ble_eq_true rfl) rfl ?_
  intro p e s m below meth c ls hx hb hr hml hown hlocks htab hts hv hl
  have hown : s.vm.findClass RL = some m.cls := hown
  obtain ⟨⟨⟨hsz, hP, hD0⟩, hK, hN⟩, hT⟩ := hv
  subst hsz
  have hS : va_S (fun _ => False) s.heap s.heap [] := va_S.rf
  have F := frc_mono F (fun q hq => List.mem_cons_of_mem (oa, .inl (cy 2, 1, .inr (.inl f))) hq)
  refine lv_aload_n hx hb dL_clear_0 rfl (lv_at hl 2 rfl) ?_
  refine lv_iconst (v := 0) hx hb dL_clear_1 (by decide) ?_
  refine lv_aload_n hx hb dL_clear_2 rfl (lv_at hl 0 rfl) ?_
  refine lv_iload_n hx hb dL_clear_3 rfl (lv_at hl 1 rfl) ?_
  obtain ⟨k_1, hk_1⟩ := frc_hub F
  refine th_catchV (As := [.int n]) (rest := [.int 0, .ref oa]) ⟨hx, hb, hml, hown, hts⟩ (c_clear_x1 l D cy F hst n) (cwV 1 hts (goodL gL_clear_X9_clear) rfl rfl rfl (by decide +kernel) ⟨by decide, by decide⟩) hK hN hP hT hS (ci := 14) (q0 := k_1) rfl hk_1 rfl rfl hl.1 rfl (Nat.le_of_ble_eq_true rfl) dL_clear_4 ⟨Nat.le_of_ble_eq_true rfl, Nat.le_of_ble_eq_true rfl⟩ [] ⟨0, 9, 12, 56⟩ [] htab (fun _ h => absurd h List.not_mem_nil) (by decide) (by decide) (hts _ (List.mem_append_right _ exW_56)) (va_Nw.use rfl (hT.2.2.1 "java/util/NoSuchElementException" (by decide))) (fun qx H locs hS => ?_)
  refine lv_astore_n (lv' := [(3, .ref qx), (0, .ref (ad 0)), (1, .int n), (2, .ref oa)]) hx hb dL_clear_12 rfl hl (by decide) rfl (fun ls hl => ?_)
  refine lv_iconst (v := 1) hx hb dL_clear_13 (by decide) ?_
  refine W.widen (k := 1) (n := 6) (Nat.le_of_ble_eq_true rfl) (Nat.le_of_ble_eq_true rfl) ?_
  exact W.iret hx hb hr (fun t ht hW => ⟨rfl, trivial, hS.F2 ht⟩) (fun z hz => (hS.2.2 z hz).elim) dL_clear_14

set_option maxRecDepth 100000 in
set_option maxHeartbeats 4000000 in
theorem w_cancel_1 (l : Launch) (D : va_G) (cy : Nat → ClassId) {ad : Nat → Nat} {rw_ : Nat → Nat → Option Nat} {w : va_W} (F : FrC cy ad rw_ w) (hst : l.stackTraces = false) (oa : Nat) (f : Nat → Int64) (sz : Nat) (n : Int32) : MW l D cy ((oa, .inl (cy 2, 1, .inr (.inl f))) :: w) sz yL_cancel (wsL_cancel ++ exW) 8 1 6 126 [.ref (ad 0), .int n, .ref oa] (some (.int 1)) (fun _ => True) := by
  refine wr_ofW (cc := cL_cancel) (maxL := 4) (ret := (some .int)) (hh := [(0, 9, 12, 56), (0, 9, 15, 23)]) (lv := [(0, .ref (ad 0)), (1, .int n), (2, .ref oa)]) (by decide) rfl (Nat.le_of_ble_eq_true rfl) rfl ?_
  intro p e s m below meth c ls hx hb hr hml hown hlocks htab hts hv hl
  have hown : s.vm.findClass RL = some m.cls := hown
  obtain ⟨⟨⟨hsz, hP, hD0⟩, hK, hN⟩, hT⟩ := hv
  subst hsz
  have hS : va_S (fun _ => False) s.heap s.heap [] := va_S.rf
  have F := frc_mono F (fun q hq => List.mem_cons_of_mem (oa, .inl (cy 2, 1, .inr (.inl f))) hq)
  refine lv_aload_n hx hb dL_cancel_0 rfl (lv_at hl 2 rfl) ?_
  refine lv_iconst (v := 0) hx hb dL_cancel_1 (by decide) ?_
  refine lv_aload_n hx hb dL_cancel_2 rfl (lv_at hl 0 rfl) ?_
  refine lv_iload_n hx hb dL_cancel_3 rfl (lv_at hl 1 rfl) ?_
  obtain ⟨k_1, hk_1⟩ := frc_hub F
  refine th_catchV (As := [.int n]) (rest := [.int 0, .ref oa]) ⟨hx, hb, hml, hown, hts⟩ (c_cancel_x1 l D cy F hst n) (cwV 1 hts (goodL gL_cancel_X9_cancel) rfl rfl rfl (by decide +kernel) ⟨by decide, by decide⟩) hK hN hP hT hS (ci := 14) (q0 := k_1) rfl hk_1 rfl rfl hl.1 rfl (Nat.le_of_ble_eq_true rfl) dL_cancel_4 ⟨Nat.le_of_ble_eq_true rfl, Nat.le_of_ble_eq_true rfl⟩ [] ⟨0, 9, 12, 56⟩ [⟨0, 9, 15, 23⟩] htab (fun _ h => absurd h List.not_mem_nil) (by decide) (by decide) (hts _ (List.mem_append_right _ exW_56)) (va_Nw.use rfl (hT.2.2.1 "java/util/NoSuchElementException" (by decide))) (fun qx H locs hS => ?_)
  refine lv_astore_n (lv' := [(3, .ref qx), (0, .ref (ad 0)), (1, .int n), (2, .ref oa)]) hx hb dL_cancel_12 rfl hl (by decide) rfl (fun ls hl => ?_)
  refine lv_iconst (v := 1) hx hb dL_cancel_13 (by decide) ?_
  refine W.widen (k := 1) (n := 6) (Nat.le_of_ble_eq_true rfl) (Nat.le_of_ble_eq_true rfl) ?_
  exact W.iret hx hb hr (fun t ht hW => ⟨rfl, trivial, hS.F2 ht⟩) (fun z hz => (hS.2.2 z hz).elim) dL_cancel_14

set_option maxRecDepth 100000 in
set_option maxHeartbeats 4000000 in
theorem w_causeOf_1 (l : Launch) (D : va_G) (cy : Nat → ClassId) {ad : Nat → Nat} {rw_ : Nat → Nat → Option Nat} {w : va_W} (F : FrC cy ad rw_ w) (hst : l.stackTraces = false) (oa : Nat) (f : Nat → Int64) (sz : Nat) (n : Int32) : MW l D cy ((oa, .inl (cy 2, 1, .inr (.inl f))) :: w) sz yL_causeOf (wsL_causeOf ++ exW) 8 1 6 125 [.ref (ad 0), .int n, .ref oa] (some (.int 1)) (fun _ => True) := by
  refine wr_ofW (cc := cL_causeOf) (maxL := 4) (ret := (some .int)) (hh := [(0, 9, 12, 56), (0, 9, 15, 23)]) (lv := [(0, .ref (ad 0)), (1, .int n), (2, .ref oa)]) (by decide) rfl (Nat.le_of_ble_eq_true rfl) rfl ?_
  intro p e s m below meth c ls hx hb hr hml hown hlocks htab hts hv hl
  have hown : s.vm.findClass RL = some m.cls := hown
  obtain ⟨⟨⟨hsz, hP, hD0⟩, hK, hN⟩, hT⟩ := hv
  subst hsz
  have hS : va_S (fun _ => False) s.heap s.heap [] := va_S.rf
  have F := frc_mono F (fun q hq => List.mem_cons_of_mem (oa, .inl (cy 2, 1, .inr (.inl f))) hq)
  refine lv_aload_n hx hb dL_causeOf_0 rfl (lv_at hl 2 rfl) ?_
  refine lv_iconst (v := 0) hx hb dL_causeOf_1 (by decide) ?_
  refine lv_aload_n hx hb dL_causeOf_2 rfl (lv_at hl 0 rfl) ?_
  refine lv_iload_n hx hb dL_causeOf_3 rfl (lv_at hl 1 rfl) ?_
  obtain ⟨k_1, hk_1⟩ := frc_hub F
  refine th_catchV (As := [.int n]) (rest := [.int 0, .ref oa]) ⟨hx, hb, hml, hown, hts⟩ (c_causeOf_x1 l D cy F hst n) (cwV 1 hts (goodL gL_causeOf_X9_causeOf) rfl rfl rfl (by decide +kernel) ⟨by decide, by decide⟩) hK hN hP hT hS (ci := 14) (q0 := k_1) rfl hk_1 rfl rfl hl.1 rfl (Nat.le_of_ble_eq_true rfl) dL_causeOf_4 ⟨Nat.le_of_ble_eq_true rfl, Nat.le_of_ble_eq_true rfl⟩ [] ⟨0, 9, 12, 56⟩ [⟨0, 9, 15, 23⟩] htab (fun _ h => absurd h List.not_mem_nil) (by decide) (by decide) (hts _ (List.mem_append_right _ exW_56)) (va_Nw.use rfl (hT.2.2.1 "java/util/NoSuchElementException" (by decide))) (fun qx H locs hS => ?_)
  refine lv_astore_n (lv' := [(3, .ref qx), (0, .ref (ad 0)), (1, .int n), (2, .ref oa)]) hx hb dL_causeOf_12 rfl hl (by decide) rfl (fun ls hl => ?_)
  refine lv_iconst (v := 1) hx hb dL_causeOf_13 (by decide) ?_
  refine W.widen (k := 1) (n := 6) (Nat.le_of_ble_eq_true rfl) (Nat.le_of_ble_eq_true rfl) ?_
  exact W.iret hx hb hr (fun t ht hW => ⟨rfl, trivial, hS.F2 ht⟩) (fun z hz => (hS.2.2 z hz).elim) dL_causeOf_14

set_option maxRecDepth 100000 in
set_option maxHeartbeats 4000000 in
theorem w_reserved_1 (l : Launch) (D : va_G) (cy : Nat → ClassId) {ad : Nat → Nat} {rw_ : Nat → Nat → Option Nat} {w : va_W} (F : FrC cy ad rw_ w) (hst : l.stackTraces = false) (oa : Nat) (f : Nat → Int64) (sz : Nat) (n d : Int32) (hw : ¬ (¬ n < 0 ∧ ¬ 7 < n)) : MW l D cy ((oa, .inl (cy 2, 1, .inr (.inl f))) :: w) sz yL_reserved (wsL_reserved ++ exW) 7 1 6 104 [.ref (ad 0), .int n, .int d, .ref oa] (some (.int 1)) (fun _ => True) := by
  refine wr_ofW (cc := cL_reserved) (maxL := 5) (ret := (some .int)) (hh := [(0, 10, 13, 13), (0, 10, 17, 21)]) (lv := [(0, .ref (ad 0)), (1, .int n), (2, .int d), (3, .ref oa)]) (by decide) rfl (Nat.le_of_ble_eq_true rfl) rfl ?_
  intro p e s m below meth c ls hx hb hr hml hown hlocks htab hts hv hl
  have hown : s.vm.findClass RL = some m.cls := hown
  obtain ⟨⟨⟨hsz, hP, hD0⟩, hK, hN⟩, hT⟩ := hv
  subst hsz
  have hS : va_S (fun _ => False) s.heap s.heap [] := va_S.rf
  have F := frc_mono F (fun q hq => List.mem_cons_of_mem (oa, .inl (cy 2, 1, .inr (.inl f))) hq)
  refine lv_aload_n hx hb dL_reserved_0 rfl (lv_at hl 3 rfl) ?_
  refine lv_iconst (v := 0) hx hb dL_reserved_1 (by decide) ?_
  refine lv_aload_n hx hb dL_reserved_2 rfl (lv_at hl 0 rfl) ?_
  refine lv_iload_n hx hb dL_reserved_3 rfl (lv_at hl 1 rfl) ?_
  refine lv_iload_n hx hb dL_reserved_4 rfl (lv_at hl 2 rfl) ?_
  obtain ⟨k_1, hk_1⟩ := frc_hub F
  refine th_catchV (As := [.int n, .int d]) (rest := [.int 0, .ref oa]) ⟨hx, hb, hml, hown, hts⟩ (c_reserved_x1 l D cy F hst n d hw) (cwV 2 hts (goodL gL_reserved_X9_reserved) rfl rfl rfl (by decide +kernel) ⟨by decide, by decide⟩) hK hN hP hT hS (ci := 14) (q0 := k_1) rfl hk_1 rfl rfl hl.1 rfl (Nat.le_of_ble_eq_true rfl) dL_reserved_5 ⟨Nat.le_of_ble_eq_true rfl, Nat.le_of_ble_eq_true rfl⟩ [] ⟨0, 10, 13, 13⟩ [⟨0, 10, 17, 21⟩] htab (fun _ h => absurd h List.not_mem_nil) (by decide) (by decide) (hts _ (List.mem_append_right _ exW_13)) (va_Nw.use rfl (hT.2.2.1 "java/lang/IllegalArgumentException" (by decide))) (fun qx H locs hS => ?_)
  refine lv_astore (lv' := [(4, .ref qx), (0, .ref (ad 0)), (1, .int n), (2, .int d), (3, .ref oa)]) hx hb dL_reserved_13 hl (by decide) rfl (fun ls hl => ?_)
  refine lv_iconst (v := 1) hx hb dL_reserved_15 (by decide) ?_
  refine W.widen (k := 1) (n := 6) (Nat.le_of_ble_eq_true rfl) (Nat.le_of_ble_eq_true rfl) ?_
  exact W.iret hx hb hr (fun t ht hW => ⟨rfl, trivial, hS.F2 ht⟩) (fun z hz => (hS.2.2 z hz).elim) dL_reserved_16

set_option maxRecDepth 100000 in
set_option maxHeartbeats 4000000 in
theorem w_reserved_0m (l : Launch) (D : va_G) (cy : Nat → ClassId) {ad : Nat → Nat} {rw_ : Nat → Nat → Option Nat} {w : va_W} (F : FrC cy ad rw_ w) (oa : Nat) (f : Nat → Int64) (sz : Nat) (j : Nat) (hj : j < 8) : MW l D cy ((oa, .inl (cy 2, 1, .inr (.inl f))) :: w) sz yL_reserved (wsL_reserved ++ exW) 2 0 0 44 [.ref (ad 0), .int (nI j), .int (-1), .ref oa] (some (.int 0)) (fun H => va_P D vwCl [(oa, .inl (cy 2, 1, .inr (.inl (vp_updL f 0 (0)))))] H) := by
  refine wr_ofW (cc := cL_reserved) (maxL := 5) (ret := (some .int)) (hh := [(0, 10, 13, 13), (0, 10, 17, 21)]) (lv := [(0, .ref (ad 0)), (1, .int (nI j)), (2, .int (-1)), (3, .ref oa)]) (by decide) rfl (Nat.le_of_ble_eq_true rfl) rfl ?_
  intro p e s m below meth c ls hx hb hr hml hown hlocks htab hts hv hl
  have hown : s.vm.findClass RL = some m.cls := hown
  obtain ⟨⟨⟨hsz, hP, hD0⟩, hK, hN⟩, hT⟩ := hv
  subst hsz
  have hD := hD0.self (sz := s.heap.size)
  generalize hAe : va_A ((oa, .inl (cy 2, 1, .inr (.inl f))) :: w) s.heap.size = A at hD ⊢
  have hA : ∀ q : Nat, s.heap.size ≤ q → A q := fun q h => by rw [← hAe]; exact Or.inr h
  have hS : va_S A s.heap s.heap [] := va_S.rf
  have F := frc_mono F (fun q hq => List.mem_cons_of_mem (oa, .inl (cy 2, 1, .inr (.inl f))) hq)
  refine lv_aload_n hx hb dL_reserved_0 rfl (lv_at hl 3 rfl) ?_
  refine lv_iconst (v := 0) hx hb dL_reserved_1 (by decide) ?_
  refine lv_aload_n hx hb dL_reserved_2 rfl (lv_at hl 0 rfl) ?_
  refine lv_iload_n hx hb dL_reserved_3 rfl (lv_at hl 1 rfl) ?_
  refine lv_iload_n hx hb dL_reserved_4 rfl (lv_at hl 2 rfl) ?_
  obtain ⟨k_1, hk_1⟩ := frc_hub F
  refine ro_callV (As := [.int (nI j), .int (-1)]) (rest := [.int 0, .ref oa]) ⟨hx, hb, hml, hown, hts⟩ (c_reserved_okm l D cy F j hj) (cwV 2 hts (goodL gL_reserved_X9_reserved) rfl rfl rfl (by decide +kernel) ⟨by decide, by decide⟩) hK hN hP hS (ci := 14) rfl hk_1 rfl rfl hl.1 rfl (Nat.le_of_ble_eq_true rfl) dL_reserved_5 ⟨Nat.le_of_ble_eq_true rfl, Nat.le_of_ble_eq_true rfl⟩ (fun H locs hP hS => ?_)
  refine lv_i2l (v := 0) hx hb dL_reserved_8 (by decide) ?_
  refine va_last hx hb hK hP hD hS 0 2 rfl rfl (by unfold vp_in; decide) dL_reserved_9 (fun H locs hP hD hS => ?_)
  rw [my_upd0] at hP
  have hB := my_one (ko := 0) hP rfl
  refine lv_goto (tgt := 21) hx hb dL_reserved_10 (by decide) ?_
  refine lv_iconst (v := 0) hx hb dL_reserved_21 (by decide) ?_
  exact W.iret hx hb hr (fun t ht hW => ⟨rfl, by rw [ht]; exact hB, hS.F ht⟩) hS.2.2 dL_reserved_22

set_option maxRecDepth 100000 in
set_option maxHeartbeats 4000000 in
theorem w_reserved_00 (l : Launch) (D : va_G) (cy : Nat → ClassId) {ad : Nat → Nat} {rw_ : Nat → Nat → Option Nat} {w : va_W} (F : FrC cy ad rw_ w) (oa : Nat) (f : Nat → Int64) (sz : Nat) (j : Nat) (hj : j < 8) : MW l D cy ((oa, .inl (cy 2, 1, .inr (.inl f))) :: w) sz yL_reserved (wsL_reserved ++ exW) 2 0 0 44 [.ref (ad 0), .int (nI j), .int 0, .ref oa] (some (.int 0)) (fun H => va_P D vwCl [(oa, .inl (cy 2, 1, .inr (.inl (vp_updL f 0 (0)))))] H) := by
  refine wr_ofW (cc := cL_reserved) (maxL := 5) (ret := (some .int)) (hh := [(0, 10, 13, 13), (0, 10, 17, 21)]) (lv := [(0, .ref (ad 0)), (1, .int (nI j)), (2, .int 0), (3, .ref oa)]) (by decide) rfl (Nat.le_of_ble_eq_true rfl) rfl ?_
  intro p e s m below meth c ls hx hb hr hml hown hlocks htab hts hv hl
  have hown : s.vm.findClass RL = some m.cls := hown
  obtain ⟨⟨⟨hsz, hP, hD0⟩, hK, hN⟩, hT⟩ := hv
  subst hsz
  have hD := hD0.self (sz := s.heap.size)
  generalize hAe : va_A ((oa, .inl (cy 2, 1, .inr (.inl f))) :: w) s.heap.size = A at hD ⊢
  have hA : ∀ q : Nat, s.heap.size ≤ q → A q := fun q h => by rw [← hAe]; exact Or.inr h
  have hS : va_S A s.heap s.heap [] := va_S.rf
  have F := frc_mono F (fun q hq => List.mem_cons_of_mem (oa, .inl (cy 2, 1, .inr (.inl f))) hq)
  refine lv_aload_n hx hb dL_reserved_0 rfl (lv_at hl 3 rfl) ?_
  refine lv_iconst (v := 0) hx hb dL_reserved_1 (by decide) ?_
  refine lv_aload_n hx hb dL_reserved_2 rfl (lv_at hl 0 rfl) ?_
  refine lv_iload_n hx hb dL_reserved_3 rfl (lv_at hl 1 rfl) ?_
  refine lv_iload_n hx hb dL_reserved_4 rfl (lv_at hl 2 rfl) ?_
  obtain ⟨k_1, hk_1⟩ := frc_hub F
  refine ro_callV (As := [.int (nI j), .int 0]) (rest := [.int 0, .ref oa]) ⟨hx, hb, hml, hown, hts⟩ (c_reserved_ok0 l D cy F j hj) (cwV 2 hts (goodL gL_reserved_X9_reserved) rfl rfl rfl (by decide +kernel) ⟨by decide, by decide⟩) hK hN hP hS (ci := 14) rfl hk_1 rfl rfl hl.1 rfl (Nat.le_of_ble_eq_true rfl) dL_reserved_5 ⟨Nat.le_of_ble_eq_true rfl, Nat.le_of_ble_eq_true rfl⟩ (fun H locs hP hS => ?_)
  refine lv_i2l (v := 0) hx hb dL_reserved_8 (by decide) ?_
  refine va_last hx hb hK hP hD hS 0 2 rfl rfl (by unfold vp_in; decide) dL_reserved_9 (fun H locs hP hD hS => ?_)
  rw [my_upd0] at hP
  have hB := my_one (ko := 0) hP rfl
  refine lv_goto (tgt := 21) hx hb dL_reserved_10 (by decide) ?_
  refine lv_iconst (v := 0) hx hb dL_reserved_21 (by decide) ?_
  exact W.iret hx hb hr (fun t ht hW => ⟨rfl, by rw [ht]; exact hB, hS.F ht⟩) hS.2.2 dL_reserved_22

set_option maxRecDepth 100000 in
set_option maxHeartbeats 4000000 in
theorem w_reserved_2 (l : Launch) (D : va_G) (cy : Nat → ClassId) {ad : Nat → Nat} {rw_ : Nat → Nat → Option Nat} {w : va_W} (F : FrC cy ad rw_ w) (hst : l.stackTraces = false) (oa : Nat) (f : Nat → Int64) (sz : Nat) (j : Nat) (d : Int32) (hj : j < 8) (hm : ¬ d = -1) (hd : ¬ d = 0) : MW l D cy ((oa, .inl (cy 2, 1, .inr (.inl f))) :: w) sz yL_reserved (wsL_reserved ++ exW) 8 1 6 125 [.ref (ad 0), .int (nI j), .int d, .ref oa] (some (.int 2)) (fun _ => True) := by
  refine wr_ofW (cc := cL_reserved) (maxL := 5) (ret := (some .int)) (hh := [(0, 10, 13, 13), (0, 10, 17, 21)]) (lv := [(0, .ref (ad 0)), (1, .int (nI j)), (2, .int d), (3, .ref oa)]) (by decide) rfl (Nat.le_of_ble_eq_true rfl) rfl ?_
  intro p e s m below meth c ls hx hb hr hml hown hlocks htab hts hv hl
  have hown : s.vm.findClass RL = some m.cls := hown
  obtain ⟨⟨⟨hsz, hP, hD0⟩, hK, hN⟩, hT⟩ := hv
  subst hsz
  have hS : va_S (fun _ => False) s.heap s.heap [] := va_S.rf
  have F := frc_mono F (fun q hq => List.mem_cons_of_mem (oa, .inl (cy 2, 1, .inr (.inl f))) hq)
  refine lv_aload_n hx hb dL_reserved_0 rfl (lv_at hl 3 rfl) ?_
  refine lv_iconst (v := 0) hx hb dL_reserved_1 (by decide) ?_
  refine lv_aload_n hx hb dL_reserved_2 rfl (lv_at hl 0 rfl) ?_
  refine lv_iload_n hx hb dL_reserved_3 rfl (lv_at hl 1 rfl) ?_
  refine lv_iload_n hx hb dL_reserved_4 rfl (lv_at hl 2 rfl) ?_
  obtain ⟨k_1, hk_1⟩ := frc_hub F
  refine th_catchV (As := [.int (nI j), .int d]) (rest := [.int 0, .ref oa]) ⟨hx, hb, hml, hown, hts⟩ (c_reserved_x2 l D cy F hst j d hj hm hd) (cwV 2 hts (goodL gL_reserved_X9_reserved) rfl rfl rfl (by decide +kernel) ⟨by decide, by decide⟩) hK hN hP hT hS (ci := 14) (q0 := k_1) rfl hk_1 rfl rfl hl.1 rfl (Nat.le_of_ble_eq_true rfl) dL_reserved_5 ⟨Nat.le_of_ble_eq_true rfl, Nat.le_of_ble_eq_true rfl⟩ [⟨0, 10, 13, 13⟩] ⟨0, 10, 17, 21⟩ [] htab (by intro z hz; simp only [List.mem_cons, List.not_mem_nil, or_false] at hz; subst hz; exact Or.inr ⟨by decide, "java/lang/IllegalArgumentException", hts _ (List.mem_append_right _ exW_13), hT.2.2.2.2 "java/lang/IndexOutOfBoundsException" (by decide) "java/lang/IllegalArgumentException" (by decide) (by decide)⟩) (by decide) (by decide) (hts _ (List.mem_append_right _ exW_21)) (va_Nw.use rfl (hT.2.2.1 "java/lang/IndexOutOfBoundsException" (by decide))) (fun qx H locs hS => ?_)
  refine lv_astore (lv' := [(4, .ref qx), (0, .ref (ad 0)), (1, .int (nI j)), (2, .int d), (3, .ref oa)]) hx hb dL_reserved_17 hl (by decide) rfl (fun ls hl => ?_)
  refine lv_iconst (v := 2) hx hb dL_reserved_19 (by decide) ?_
  refine W.widen (k := 1) (n := 6) (Nat.le_of_ble_eq_true rfl) (Nat.le_of_ble_eq_true rfl) ?_
  exact W.iret hx hb hr (fun t ht hW => ⟨rfl, trivial, hS.F2 ht⟩) (fun z hz => (hS.2.2 z hz).elim) dL_reserved_20

set_option maxRecDepth 100000 in
set_option maxHeartbeats 4000000 in
theorem w_ask_1 (l : Launch) (D : va_G) (cy : Nat → ClassId) {ad : Nat → Nat} {rw_ : Nat → Nat → Option Nat} {w : va_W} (F : FrC cy ad rw_ w) (hst : l.stackTraces = false) (oa : Nat) (f : Nat → Int64) (sz : Nat) (n z : Int32) : MW l D cy ((oa, .inl (cy 2, 1, .inr (.inl f))) :: w) sz yL_ask (wsL_ask ++ exW) 8 1 6 127 [.ref (ad 0), .int n, .int z, .ref oa] (some (.int 1)) (fun _ => True) := by
  refine wr_ofW (cc := cL_ask) (maxL := 5) (ret := (some .int)) (hh := [(0, 10, 13, 56), (0, 10, 17, 13), (0, 10, 21, 23), (0, 10, 25, 15)]) (lv := [(0, .ref (ad 0)), (1, .int n), (2, .int z), (3, .ref oa)]) (by decide) rfl (Nat.le_of_ble_eq_true rfl) rfl ?_
  intro p e s m below meth c ls hx hb hr hml hown hlocks htab hts hv hl
  have hown : s.vm.findClass RL = some m.cls := hown
  obtain ⟨⟨⟨hsz, hP, hD0⟩, hK, hN⟩, hT⟩ := hv
  subst hsz
  have hS : va_S (fun _ => False) s.heap s.heap [] := va_S.rf
  have F := frc_mono F (fun q hq => List.mem_cons_of_mem (oa, .inl (cy 2, 1, .inr (.inl f))) hq)
  refine lv_aload_n hx hb dL_ask_0 rfl (lv_at hl 3 rfl) ?_
  refine lv_iconst (v := 0) hx hb dL_ask_1 (by decide) ?_
  refine lv_aload_n hx hb dL_ask_2 rfl (lv_at hl 0 rfl) ?_
  refine lv_iload_n hx hb dL_ask_3 rfl (lv_at hl 1 rfl) ?_
  refine lv_iload_n hx hb dL_ask_4 rfl (lv_at hl 2 rfl) ?_
  obtain ⟨k_1, hk_1⟩ := frc_hub F
  refine th_catchV (As := [.int n, .int z]) (rest := [.int 0, .ref oa]) ⟨hx, hb, hml, hown, hts⟩ (c_ask_x1 l D cy F hst n z) (cwV 2 hts (goodL gL_ask_X9_ask) rfl rfl rfl (by decide +kernel) ⟨by decide, by decide⟩) hK hN hP hT hS (ci := 14) (q0 := k_1) rfl hk_1 rfl rfl hl.1 rfl (Nat.le_of_ble_eq_true rfl) dL_ask_5 ⟨Nat.le_of_ble_eq_true rfl, Nat.le_of_ble_eq_true rfl⟩ [] ⟨0, 10, 13, 56⟩ [⟨0, 10, 17, 13⟩, ⟨0, 10, 21, 23⟩, ⟨0, 10, 25, 15⟩] htab (fun _ h => absurd h List.not_mem_nil) (by decide) (by decide) (hts _ (List.mem_append_right _ exW_56)) (va_Nw.use rfl (hT.2.2.1 "java/util/NoSuchElementException" (by decide))) (fun qx H locs hS => ?_)
  refine lv_astore (lv' := [(4, .ref qx), (0, .ref (ad 0)), (1, .int n), (2, .int z), (3, .ref oa)]) hx hb dL_ask_13 hl (by decide) rfl (fun ls hl => ?_)
  refine lv_iconst (v := 1) hx hb dL_ask_15 (by decide) ?_
  refine W.widen (k := 1) (n := 6) (Nat.le_of_ble_eq_true rfl) (Nat.le_of_ble_eq_true rfl) ?_
  exact W.iret hx hb hr (fun t ht hW => ⟨rfl, trivial, hS.F2 ht⟩) (fun z hz => (hS.2.2 z hz).elim) dL_ask_16

set_option maxRecDepth 100000 in
set_option maxHeartbeats 4000000 in
theorem w_load_1 (l : Launch) (D : va_G) (cy : Nat → ClassId) {ad : Nat → Nat} {rw_ : Nat → Nat → Option Nat} {w : va_W} (F : FrC cy ad rw_ w) (hst : l.stackTraces = false) (oa : Nat) (f : Nat → Int64) (sz : Nat) (d n : Int32) : MW l D cy ((oa, .inl (cy 2, 1, .inr (.inl f))) :: w) sz yL_load (wsL_load ++ exW) 8 1 6 127 [.ref (ad 0), .int d, .int n, .ref oa] (some (.int 1)) (fun _ => True) := by
  refine wr_ofW (cc := cL_load) (maxL := 5) (ret := (some .int)) (hh := [(0, 10, 13, 21), (0, 10, 17, 23), (0, 10, 21, 15)]) (lv := [(0, .ref (ad 0)), (1, .int d), (2, .int n), (3, .ref oa)]) (by decide) rfl (Nat.le_of_ble_eq_true rfl) rfl ?_
  intro p e s m below meth c ls hx hb hr hml hown hlocks htab hts hv hl
  have hown : s.vm.findClass RL = some m.cls := hown
  obtain ⟨⟨⟨hsz, hP, hD0⟩, hK, hN⟩, hT⟩ := hv
  subst hsz
  have hS : va_S (fun _ => False) s.heap s.heap [] := va_S.rf
  have F := frc_mono F (fun q hq => List.mem_cons_of_mem (oa, .inl (cy 2, 1, .inr (.inl f))) hq)
  refine lv_aload_n hx hb dL_load_0 rfl (lv_at hl 3 rfl) ?_
  refine lv_iconst (v := 0) hx hb dL_load_1 (by decide) ?_
  refine lv_aload_n hx hb dL_load_2 rfl (lv_at hl 0 rfl) ?_
  refine lv_iload_n hx hb dL_load_3 rfl (lv_at hl 1 rfl) ?_
  refine lv_iload_n hx hb dL_load_4 rfl (lv_at hl 2 rfl) ?_
  obtain ⟨k_1, hk_1⟩ := frc_hub F
  refine th_catchV (As := [.int d, .int n]) (rest := [.int 0, .ref oa]) ⟨hx, hb, hml, hown, hts⟩ (c_load_x1 l D cy F hst d n) (cwV 2 hts (goodL gL_load_X9_load) rfl rfl rfl (by decide +kernel) ⟨by decide, by decide⟩) hK hN hP hT hS (ci := 14) (q0 := k_1) rfl hk_1 rfl rfl hl.1 rfl (Nat.le_of_ble_eq_true rfl) dL_load_5 ⟨Nat.le_of_ble_eq_true rfl, Nat.le_of_ble_eq_true rfl⟩ [] ⟨0, 10, 13, 21⟩ [⟨0, 10, 17, 23⟩, ⟨0, 10, 21, 15⟩] htab (fun _ h => absurd h List.not_mem_nil) (by decide) (by decide) (hts _ (List.mem_append_right _ exW_21)) (va_Nw.use rfl (hT.2.2.1 "java/lang/IndexOutOfBoundsException" (by decide))) (fun qx H locs hS => ?_)
  refine lv_astore (lv' := [(4, .ref qx), (0, .ref (ad 0)), (1, .int d), (2, .int n), (3, .ref oa)]) hx hb dL_load_13 hl (by decide) rfl (fun ls hl => ?_)
  refine lv_iconst (v := 1) hx hb dL_load_15 (by decide) ?_
  refine W.widen (k := 1) (n := 6) (Nat.le_of_ble_eq_true rfl) (Nat.le_of_ble_eq_true rfl) ?_
  exact W.iret hx hb hr (fun t ht hW => ⟨rfl, trivial, hS.F2 ht⟩) (fun z hz => (hS.2.2 z hz).elim) dL_load_16

set_option maxRecDepth 100000 in
set_option maxHeartbeats 4000000 in
theorem w_fault_1 (l : Launch) (D : va_G) (cy : Nat → ClassId) {ad : Nat → Nat} {rw_ : Nat → Nat → Option Nat} {w : va_W} (F : FrC cy ad rw_ w) (hst : l.stackTraces = false) (oa : Nat) (f : Nat → Int64) (sz : Nat) (d n q z : Int32) : MW l D cy ((oa, .inl (cy 2, 1, .inr (.inl f))) :: w) sz yL_fault (wsL_fault ++ exW) 9 1 6 151 [.ref (ad 0), .int d, .int n, .int q, .int z, .ref oa] (some (.int 1)) (fun _ => True) := by
  refine wr_ofW (cc := cL_fault) (maxL := 7) (ret := (some .int)) (hh := [(0, 14, 17, 21), (0, 14, 21, 13)]) (lv := [(0, .ref (ad 0)), (1, .int d), (2, .int n), (3, .int q), (4, .int z), (5, .ref oa)]) (by decide) rfl (Nat.le_of_ble_eq_true rfl) rfl ?_
  intro p e s m below meth c ls hx hb hr hml hown hlocks htab hts hv hl
  have hown : s.vm.findClass RL = some m.cls := hown
  obtain ⟨⟨⟨hsz, hP, hD0⟩, hK, hN⟩, hT⟩ := hv
  subst hsz
  have hS : va_S (fun _ => False) s.heap s.heap [] := va_S.rf
  have F := frc_mono F (fun q hq => List.mem_cons_of_mem (oa, .inl (cy 2, 1, .inr (.inl f))) hq)
  refine lv_aload hx hb dL_fault_0 (lv_at hl 5 rfl) ?_
  refine lv_iconst (v := 0) hx hb dL_fault_2 (by decide) ?_
  refine lv_aload_n hx hb dL_fault_3 rfl (lv_at hl 0 rfl) ?_
  refine lv_iload_n hx hb dL_fault_4 rfl (lv_at hl 1 rfl) ?_
  refine lv_iload_n hx hb dL_fault_5 rfl (lv_at hl 2 rfl) ?_
  refine lv_iload_n hx hb dL_fault_6 rfl (lv_at hl 3 rfl) ?_
  refine lv_iload hx hb dL_fault_7 (lv_at hl 4 rfl) ?_
  obtain ⟨k_1, hk_1⟩ := frc_hub F
  refine th_catchV (As := [.int d, .int n, .int q, .int z]) (rest := [.int 0, .ref oa]) ⟨hx, hb, hml, hown, hts⟩ (c_fault_x1 l D cy F hst d n q z) (cwV 4 hts (goodL gL_fault_X9_fault) rfl rfl rfl (by decide +kernel) ⟨by decide, by decide⟩) hK hN hP hT hS (ci := 14) (q0 := k_1) rfl hk_1 rfl rfl hl.1 rfl (Nat.le_of_ble_eq_true rfl) dL_fault_9 ⟨Nat.le_of_ble_eq_true rfl, Nat.le_of_ble_eq_true rfl⟩ [] ⟨0, 14, 17, 21⟩ [⟨0, 14, 21, 13⟩] htab (fun _ h => absurd h List.not_mem_nil) (by decide) (by decide) (hts _ (List.mem_append_right _ exW_21)) (va_Nw.use rfl (hT.2.2.1 "java/lang/IndexOutOfBoundsException" (by decide))) (fun qx H locs hS => ?_)
  refine lv_astore (lv' := [(6, .ref qx), (0, .ref (ad 0)), (1, .int d), (2, .int n), (3, .int q), (4, .int z), (5, .ref oa)]) hx hb dL_fault_17 hl (by decide) rfl (fun ls hl => ?_)
  refine lv_iconst (v := 1) hx hb dL_fault_19 (by decide) ?_
  refine W.widen (k := 1) (n := 6) (Nat.le_of_ble_eq_true rfl) (Nat.le_of_ble_eq_true rfl) ?_
  exact W.iret hx hb hr (fun t ht hW => ⟨rfl, trivial, hS.F2 ht⟩) (fun z hz => (hS.2.2 z hz).elim) dL_fault_20

set_option maxRecDepth 100000 in
set_option maxHeartbeats 4000000 in
theorem w_left_1 (l : Launch) (D : va_G) (cy : Nat → ClassId) {ad : Nat → Nat} {rw_ : Nat → Nat → Option Nat} {w : va_W} (F : FrC cy ad rw_ w) (hst : l.stackTraces = false) (oa : Nat) (f : Nat → Int64) (sz : Nat) (d : Int32) (hm : ¬ d = -1) (hd : ¬ d = 0) : MW l D cy ((oa, .inl (cy 2, 1, .inr (.inl f))) :: w) sz yL_left (wsL_left ++ exW) 8 1 6 125 [.ref (ad 0), .int d, .ref oa] (some (.int 1)) (fun _ => True) := by
  refine wr_ofW (cc := cL_left) (maxL := 4) (ret := (some .int)) (hh := [(0, 9, 12, 21), (0, 9, 15, 56)]) (lv := [(0, .ref (ad 0)), (1, .int d), (2, .ref oa)]) (by decide) rfl (Nat.le_of_ble_eq_true rfl) rfl ?_
  intro p e s m below meth c ls hx hb hr hml hown hlocks htab hts hv hl
  have hown : s.vm.findClass RL = some m.cls := hown
  obtain ⟨⟨⟨hsz, hP, hD0⟩, hK, hN⟩, hT⟩ := hv
  subst hsz
  have hS : va_S (fun _ => False) s.heap s.heap [] := va_S.rf
  have F := frc_mono F (fun q hq => List.mem_cons_of_mem (oa, .inl (cy 2, 1, .inr (.inl f))) hq)
  refine lv_aload_n hx hb dL_left_0 rfl (lv_at hl 2 rfl) ?_
  refine lv_iconst (v := 0) hx hb dL_left_1 (by decide) ?_
  refine lv_aload_n hx hb dL_left_2 rfl (lv_at hl 0 rfl) ?_
  refine lv_iload_n hx hb dL_left_3 rfl (lv_at hl 1 rfl) ?_
  obtain ⟨k_1, hk_1⟩ := frc_hub F
  refine th_catchV (As := [.int d]) (rest := [.int 0, .ref oa]) ⟨hx, hb, hml, hown, hts⟩ (c_left_x1 l D cy F hst d hm hd) (cwV 1 hts (goodL gL_left_X9_left) rfl rfl rfl (by decide +kernel) ⟨by decide, by decide⟩) hK hN hP hT hS (ci := 14) (q0 := k_1) rfl hk_1 rfl rfl hl.1 rfl (Nat.le_of_ble_eq_true rfl) dL_left_4 ⟨Nat.le_of_ble_eq_true rfl, Nat.le_of_ble_eq_true rfl⟩ [] ⟨0, 9, 12, 21⟩ [⟨0, 9, 15, 56⟩] htab (fun _ h => absurd h List.not_mem_nil) (by decide) (by decide) (hts _ (List.mem_append_right _ exW_21)) (va_Nw.use rfl (hT.2.2.1 "java/lang/IndexOutOfBoundsException" (by decide))) (fun qx H locs hS => ?_)
  refine lv_astore_n (lv' := [(3, .ref qx), (0, .ref (ad 0)), (1, .int d), (2, .ref oa)]) hx hb dL_left_12 rfl hl (by decide) rfl (fun ls hl => ?_)
  refine lv_iconst (v := 1) hx hb dL_left_13 (by decide) ?_
  refine W.widen (k := 1) (n := 6) (Nat.le_of_ble_eq_true rfl) (Nat.le_of_ble_eq_true rfl) ?_
  exact W.iret hx hb hr (fun t ht hW => ⟨rfl, trivial, hS.F2 ht⟩) (fun z hz => (hS.2.2 z hz).elim) dL_left_14

set_option maxRecDepth 100000 in
set_option maxHeartbeats 4000000 in
theorem w_left_2a (l : Launch) (D : va_G) (cy : Nat → ClassId) {ad : Nat → Nat} {rw_ : Nat → Nat → Option Nat} {w : va_W} (F : FrC cy ad rw_ w) (hst : l.stackTraces = false) (oa : Nat) (f : Nat → Int64) (sz : Nat) : MW l D cy ((oa, .inl (cy 2, 1, .inr (.inl f))) :: w) sz yL_left (wsL_left ++ exW) 7 1 6 104 [.ref (ad 0), .int (-1), .ref oa] (some (.int 2)) (fun _ => True) := by
  refine wr_ofW (cc := cL_left) (maxL := 4) (ret := (some .int)) (hh := [(0, 9, 12, 21), (0, 9, 15, 56)]) (lv := [(0, .ref (ad 0)), (1, .int (-1)), (2, .ref oa)]) (by decide) rfl (Nat.le_of_ble_eq_true rfl) rfl ?_
  intro p e s m below meth c ls hx hb hr hml hown hlocks htab hts hv hl
  have hown : s.vm.findClass RL = some m.cls := hown
  obtain ⟨⟨⟨hsz, hP, hD0⟩, hK, hN⟩, hT⟩ := hv
  subst hsz
  have hS : va_S (fun _ => False) s.heap s.heap [] := va_S.rf
  have F := frc_mono F (fun q hq => List.mem_cons_of_mem (oa, .inl (cy 2, 1, .inr (.inl f))) hq)
  refine lv_aload_n hx hb dL_left_0 rfl (lv_at hl 2 rfl) ?_
  refine lv_iconst (v := 0) hx hb dL_left_1 (by decide) ?_
  refine lv_aload_n hx hb dL_left_2 rfl (lv_at hl 0 rfl) ?_
  refine lv_iload_n hx hb dL_left_3 rfl (lv_at hl 1 rfl) ?_
  obtain ⟨k_1, hk_1⟩ := frc_hub F
  refine th_catchV (As := [.int (-1)]) (rest := [.int 0, .ref oa]) ⟨hx, hb, hml, hown, hts⟩ (c_left_x2a l D cy F hst) (cwV 1 hts (goodL gL_left_X9_left) rfl rfl rfl (by decide +kernel) ⟨by decide, by decide⟩) hK hN hP hT hS (ci := 14) (q0 := k_1) rfl hk_1 rfl rfl hl.1 rfl (Nat.le_of_ble_eq_true rfl) dL_left_4 ⟨Nat.le_of_ble_eq_true rfl, Nat.le_of_ble_eq_true rfl⟩ [⟨0, 9, 12, 21⟩] ⟨0, 9, 15, 56⟩ [] htab (by intro z hz; simp only [List.mem_cons, List.not_mem_nil, or_false] at hz; subst hz; exact Or.inr ⟨by decide, "java/lang/IndexOutOfBoundsException", hts _ (List.mem_append_right _ exW_21), hT.2.2.2.2 "java/util/NoSuchElementException" (by decide) "java/lang/IndexOutOfBoundsException" (by decide) (by decide)⟩) (by decide) (by decide) (hts _ (List.mem_append_right _ exW_56)) (va_Nw.use rfl (hT.2.2.1 "java/util/NoSuchElementException" (by decide))) (fun qx H locs hS => ?_)
  refine lv_astore_n (lv' := [(3, .ref qx), (0, .ref (ad 0)), (1, .int (-1)), (2, .ref oa)]) hx hb dL_left_15 rfl hl (by decide) rfl (fun ls hl => ?_)
  refine lv_iconst (v := 2) hx hb dL_left_16 (by decide) ?_
  refine W.widen (k := 1) (n := 6) (Nat.le_of_ble_eq_true rfl) (Nat.le_of_ble_eq_true rfl) ?_
  exact W.iret hx hb hr (fun t ht hW => ⟨rfl, trivial, hS.F2 ht⟩) (fun z hz => (hS.2.2 z hz).elim) dL_left_17

set_option maxRecDepth 100000 in
set_option maxHeartbeats 4000000 in
theorem w_left_2b (l : Launch) (D : va_G) (cy : Nat → ClassId) {ad : Nat → Nat} {rw_ : Nat → Nat → Option Nat} {w : va_W} (F : FrC cy ad rw_ w) (hst : l.stackTraces = false) (oa : Nat) (f : Nat → Int64) (sz : Nat) : MW l D cy ((oa, .inl (cy 2, 1, .inr (.inl f))) :: w) sz yL_left (wsL_left ++ exW) 7 1 6 104 [.ref (ad 0), .int 0, .ref oa] (some (.int 2)) (fun _ => True) := by
  refine wr_ofW (cc := cL_left) (maxL := 4) (ret := (some .int)) (hh := [(0, 9, 12, 21), (0, 9, 15, 56)]) (lv := [(0, .ref (ad 0)), (1, .int 0), (2, .ref oa)]) (by decide) rfl (Nat.le_of_ble_eq_true rfl) rfl ?_
  intro p e s m below meth c ls hx hb hr hml hown hlocks htab hts hv hl
  have hown : s.vm.findClass RL = some m.cls := hown
  obtain ⟨⟨⟨hsz, hP, hD0⟩, hK, hN⟩, hT⟩ := hv
  subst hsz
  have hS : va_S (fun _ => False) s.heap s.heap [] := va_S.rf
  have F := frc_mono F (fun q hq => List.mem_cons_of_mem (oa, .inl (cy 2, 1, .inr (.inl f))) hq)
  refine lv_aload_n hx hb dL_left_0 rfl (lv_at hl 2 rfl) ?_
  refine lv_iconst (v := 0) hx hb dL_left_1 (by decide) ?_
  refine lv_aload_n hx hb dL_left_2 rfl (lv_at hl 0 rfl) ?_
  refine lv_iload_n hx hb dL_left_3 rfl (lv_at hl 1 rfl) ?_
  obtain ⟨k_1, hk_1⟩ := frc_hub F
  refine th_catchV (As := [.int 0]) (rest := [.int 0, .ref oa]) ⟨hx, hb, hml, hown, hts⟩ (c_left_x2b l D cy F hst) (cwV 1 hts (goodL gL_left_X9_left) rfl rfl rfl (by decide +kernel) ⟨by decide, by decide⟩) hK hN hP hT hS (ci := 14) (q0 := k_1) rfl hk_1 rfl rfl hl.1 rfl (Nat.le_of_ble_eq_true rfl) dL_left_4 ⟨Nat.le_of_ble_eq_true rfl, Nat.le_of_ble_eq_true rfl⟩ [⟨0, 9, 12, 21⟩] ⟨0, 9, 15, 56⟩ [] htab (by intro z hz; simp only [List.mem_cons, List.not_mem_nil, or_false] at hz; subst hz; exact Or.inr ⟨by decide, "java/lang/IndexOutOfBoundsException", hts _ (List.mem_append_right _ exW_21), hT.2.2.2.2 "java/util/NoSuchElementException" (by decide) "java/lang/IndexOutOfBoundsException" (by decide) (by decide)⟩) (by decide) (by decide) (hts _ (List.mem_append_right _ exW_56)) (va_Nw.use rfl (hT.2.2.1 "java/util/NoSuchElementException" (by decide))) (fun qx H locs hS => ?_)
  refine lv_astore_n (lv' := [(3, .ref qx), (0, .ref (ad 0)), (1, .int 0), (2, .ref oa)]) hx hb dL_left_15 rfl hl (by decide) rfl (fun ls hl => ?_)
  refine lv_iconst (v := 2) hx hb dL_left_16 (by decide) ?_
  refine W.widen (k := 1) (n := 6) (Nat.le_of_ble_eq_true rfl) (Nat.le_of_ble_eq_true rfl) ?_
  exact W.iret hx hb hr (fun t ht hW => ⟨rfl, trivial, hS.F2 ht⟩) (fun z hz => (hS.2.2 z hz).elim) dL_left_17

set_option maxRecDepth 100000 in
set_option maxHeartbeats 4000000 in
theorem w_event_1 (l : Launch) (D : va_G) (cy : Nat → ClassId) {ad : Nat → Nat} {rw_ : Nat → Nat → Option Nat} {w : va_W} (F : FrC cy ad rw_ w) (hst : l.stackTraces = false) (oa : Nat) (f : Nat → Int64) (sz : Nat) : MW l D cy ((oa, .inl (cy 2, 1, .inr (.inl f))) :: w) sz yL_event (wsL_event ++ exW) 7 1 6 102 [.ref (ad 0), .ref oa] (some (.int 1)) (fun _ => True) := by
  refine wr_ofW (cc := cL_event) (maxL := 3) (ret := (some .int)) (hh := [(0, 8, 11, 56)]) (lv := [(0, .ref (ad 0)), (1, .ref oa)]) (by decide) rfl (Nat.le_of_ble_eq_true rfl) rfl ?_
  intro p e s m below meth c ls hx hb hr hml hown hlocks htab hts hv hl
  have hown : s.vm.findClass RL = some m.cls := hown
  obtain ⟨⟨⟨hsz, hP, hD0⟩, hK, hN⟩, hT⟩ := hv
  subst hsz
  have hS : va_S (fun _ => False) s.heap s.heap [] := va_S.rf
  have F := frc_mono F (fun q hq => List.mem_cons_of_mem (oa, .inl (cy 2, 1, .inr (.inl f))) hq)
  refine lv_aload_n hx hb dL_event_0 rfl (lv_at hl 1 rfl) ?_
  refine lv_iconst (v := 0) hx hb dL_event_1 (by decide) ?_
  refine lv_aload_n hx hb dL_event_2 rfl (lv_at hl 0 rfl) ?_
  obtain ⟨k_1, hk_1⟩ := frc_hub F
  refine th_catchV (As := []) (rest := [.int 0, .ref oa]) ⟨hx, hb, hml, hown, hts⟩ (c_event_x1 l D cy F hst) (cwV 0 hts (goodL gL_event_X9_event) rfl rfl rfl (by decide +kernel) ⟨by decide, by decide⟩) hK hN hP hT hS (ci := 14) (q0 := k_1) rfl hk_1 rfl rfl hl.1 rfl (Nat.le_of_ble_eq_true rfl) dL_event_3 ⟨Nat.le_of_ble_eq_true rfl, Nat.le_of_ble_eq_true rfl⟩ [] ⟨0, 8, 11, 56⟩ [] htab (fun _ h => absurd h List.not_mem_nil) (by decide) (by decide) (hts _ (List.mem_append_right _ exW_56)) (va_Nw.use rfl (hT.2.2.1 "java/util/NoSuchElementException" (by decide))) (fun qx H locs hS => ?_)
  refine lv_astore_n (lv' := [(2, .ref qx), (0, .ref (ad 0)), (1, .ref oa)]) hx hb dL_event_11 rfl hl (by decide) rfl (fun ls hl => ?_)
  refine lv_iconst (v := 1) hx hb dL_event_12 (by decide) ?_
  refine W.widen (k := 1) (n := 6) (Nat.le_of_ble_eq_true rfl) (Nat.le_of_ble_eq_true rfl) ?_
  exact W.iret hx hb hr (fun t ht hW => ⟨rfl, trivial, hS.F2 ht⟩) (fun z hz => (hS.2.2 z hz).elim) dL_event_13

set_option maxRecDepth 100000 in
set_option maxHeartbeats 4000000 in
theorem w_eventPipe_1 (l : Launch) (D : va_G) (cy : Nat → ClassId) {ad : Nat → Nat} {rw_ : Nat → Nat → Option Nat} {w : va_W} (F : FrC cy ad rw_ w) (hst : l.stackTraces = false) (oa : Nat) (f : Nat → Int64) (sz : Nat) : MW l D cy ((oa, .inl (cy 2, 1, .inr (.inl f))) :: w) sz yL_eventPipe (wsL_eventPipe ++ exW) 7 1 6 102 [.ref (ad 0), .ref oa] (some (.int 1)) (fun _ => True) := by
  refine wr_ofW (cc := cL_eventPipe) (maxL := 3) (ret := (some .int)) (hh := [(0, 8, 11, 56)]) (lv := [(0, .ref (ad 0)), (1, .ref oa)]) (by decide) rfl (Nat.le_of_ble_eq_true rfl) rfl ?_
  intro p e s m below meth c ls hx hb hr hml hown hlocks htab hts hv hl
  have hown : s.vm.findClass RL = some m.cls := hown
  obtain ⟨⟨⟨hsz, hP, hD0⟩, hK, hN⟩, hT⟩ := hv
  subst hsz
  have hS : va_S (fun _ => False) s.heap s.heap [] := va_S.rf
  have F := frc_mono F (fun q hq => List.mem_cons_of_mem (oa, .inl (cy 2, 1, .inr (.inl f))) hq)
  refine lv_aload_n hx hb dL_eventPipe_0 rfl (lv_at hl 1 rfl) ?_
  refine lv_iconst (v := 0) hx hb dL_eventPipe_1 (by decide) ?_
  refine lv_aload_n hx hb dL_eventPipe_2 rfl (lv_at hl 0 rfl) ?_
  obtain ⟨k_1, hk_1⟩ := frc_hub F
  refine th_catchV (As := []) (rest := [.int 0, .ref oa]) ⟨hx, hb, hml, hown, hts⟩ (c_eventPipe_x1 l D cy F hst) (cwV 0 hts (goodL gL_eventPipe_X9_eventPipe) rfl rfl rfl (by decide +kernel) ⟨by decide, by decide⟩) hK hN hP hT hS (ci := 14) (q0 := k_1) rfl hk_1 rfl rfl hl.1 rfl (Nat.le_of_ble_eq_true rfl) dL_eventPipe_3 ⟨Nat.le_of_ble_eq_true rfl, Nat.le_of_ble_eq_true rfl⟩ [] ⟨0, 8, 11, 56⟩ [] htab (fun _ h => absurd h List.not_mem_nil) (by decide) (by decide) (hts _ (List.mem_append_right _ exW_56)) (va_Nw.use rfl (hT.2.2.1 "java/util/NoSuchElementException" (by decide))) (fun qx H locs hS => ?_)
  refine lv_astore_n (lv' := [(2, .ref qx), (0, .ref (ad 0)), (1, .ref oa)]) hx hb dL_eventPipe_11 rfl hl (by decide) rfl (fun ls hl => ?_)
  refine lv_iconst (v := 1) hx hb dL_eventPipe_12 (by decide) ?_
  refine W.widen (k := 1) (n := 6) (Nat.le_of_ble_eq_true rfl) (Nat.le_of_ble_eq_true rfl) ?_
  exact W.iret hx hb hr (fun t ht hW => ⟨rfl, trivial, hS.F2 ht⟩) (fun z hz => (hS.2.2 z hz).elim) dL_eventPipe_13

set_option maxRecDepth 100000 in
set_option maxHeartbeats 4000000 in
theorem w_eventBytes_1 (l : Launch) (D : va_G) (cy : Nat → ClassId) {ad : Nat → Nat} {rw_ : Nat → Nat → Option Nat} {w : va_W} (F : FrC cy ad rw_ w) (hst : l.stackTraces = false) (oa : Nat) (f : Nat → Int64) (sz : Nat) : MW l D cy ((oa, .inl (cy 2, 1, .inr (.inl f))) :: w) sz yL_eventBytes (wsL_eventBytes ++ exW) 7 1 6 102 [.ref (ad 0), .ref oa] (some (.int 1)) (fun _ => True) := by
  refine wr_ofW (cc := cL_eventBytes) (maxL := 3) (ret := (some .int)) (hh := [(0, 8, 11, 56)]) (lv := [(0, .ref (ad 0)), (1, .ref oa)]) (by decide) rfl (Nat.le_of_ble_eq_true rfl) rfl ?_
  intro p e s m below meth c ls hx hb hr hml hown hlocks htab hts hv hl
  have hown : s.vm.findClass RL = some m.cls := hown
  obtain ⟨⟨⟨hsz, hP, hD0⟩, hK, hN⟩, hT⟩ := hv
  subst hsz
  have hS : va_S (fun _ => False) s.heap s.heap [] := va_S.rf
  have F := frc_mono F (fun q hq => List.mem_cons_of_mem (oa, .inl (cy 2, 1, .inr (.inl f))) hq)
  refine lv_aload_n hx hb dL_eventBytes_0 rfl (lv_at hl 1 rfl) ?_
  refine lv_iconst (v := 0) hx hb dL_eventBytes_1 (by decide) ?_
  refine lv_aload_n hx hb dL_eventBytes_2 rfl (lv_at hl 0 rfl) ?_
  obtain ⟨k_1, hk_1⟩ := frc_hub F
  refine th_catchV (As := []) (rest := [.int 0, .ref oa]) ⟨hx, hb, hml, hown, hts⟩ (c_eventBytes_x1 l D cy F hst) (cwV 0 hts (goodL gL_eventBytes_X9_eventBytes) rfl rfl rfl (by decide +kernel) ⟨by decide, by decide⟩) hK hN hP hT hS (ci := 14) (q0 := k_1) rfl hk_1 rfl rfl hl.1 rfl (Nat.le_of_ble_eq_true rfl) dL_eventBytes_3 ⟨Nat.le_of_ble_eq_true rfl, Nat.le_of_ble_eq_true rfl⟩ [] ⟨0, 8, 11, 56⟩ [] htab (fun _ h => absurd h List.not_mem_nil) (by decide) (by decide) (hts _ (List.mem_append_right _ exW_56)) (va_Nw.use rfl (hT.2.2.1 "java/util/NoSuchElementException" (by decide))) (fun qx H locs hS => ?_)
  refine lv_astore_n (lv' := [(2, .ref qx), (0, .ref (ad 0)), (1, .ref oa)]) hx hb dL_eventBytes_11 rfl hl (by decide) rfl (fun ls hl => ?_)
  refine lv_iconst (v := 1) hx hb dL_eventBytes_12 (by decide) ?_
  refine W.widen (k := 1) (n := 6) (Nat.le_of_ble_eq_true rfl) (Nat.le_of_ble_eq_true rfl) ?_
  exact W.iret hx hb hr (fun t ht hW => ⟨rfl, trivial, hS.F2 ht⟩) (fun z hz => (hS.2.2 z hz).elim) dL_eventBytes_13

set_option maxRecDepth 100000 in
set_option maxHeartbeats 4000000 in
theorem w_busyShare_1 (l : Launch) (D : va_G) (cy : Nat → ClassId) {ad : Nat → Nat} {rw_ : Nat → Nat → Option Nat} {w : va_W} (F : FrC cy ad rw_ w) (hst : l.stackTraces = false) (oa : Nat) (f : Nat → Int64) (sz : Nat) (od : Nat) : MW l D cy ((oa, .inl (cy 2, 1, .inr (.inl f))) :: w) sz yL_busyShare (wsL_busyShare ++ exW) 7 1 6 102 [.ref (ad 0), .ref od] (some (.int 1)) (fun _ => True) := by
  refine wr_ofW (cc := cL_busyShare) (maxL := 3) (ret := (some .int)) (hh := [(0, 8, 11, 157)]) (lv := [(0, .ref (ad 0)), (1, .ref od)]) (by decide) rfl (Nat.le_of_ble_eq_true rfl) rfl ?_
  intro p e s m below meth c ls hx hb hr hml hown hlocks htab hts hv hl
  have hown : s.vm.findClass RL = some m.cls := hown
  obtain ⟨⟨⟨hsz, hP, hD0⟩, hK, hN⟩, hT⟩ := hv
  subst hsz
  have hS : va_S (fun _ => False) s.heap s.heap [] := va_S.rf
  have F := frc_mono F (fun q hq => List.mem_cons_of_mem (oa, .inl (cy 2, 1, .inr (.inl f))) hq)
  refine lv_aload_n hx hb dL_busyShare_0 rfl (lv_at hl 1 rfl) ?_
  refine lv_iconst (v := 0) hx hb dL_busyShare_1 (by decide) ?_
  refine lv_aload_n hx hb dL_busyShare_2 rfl (lv_at hl 0 rfl) ?_
  obtain ⟨k_1, hk_1⟩ := frc_hub F
  refine th_catchV (As := []) (rest := [.int 0, .ref od]) ⟨hx, hb, hml, hown, hts⟩ (c_busyShare_x1 l D cy F hst) (cwV 0 hts (goodL gL_busyShare_X9_busyShare) rfl rfl rfl (by decide +kernel) ⟨by decide, by decide⟩) hK hN hP hT hS (ci := 14) (q0 := k_1) rfl hk_1 rfl rfl hl.1 rfl (Nat.le_of_ble_eq_true rfl) dL_busyShare_3 ⟨Nat.le_of_ble_eq_true rfl, Nat.le_of_ble_eq_true rfl⟩ [] ⟨0, 8, 11, 157⟩ [] htab (fun _ h => absurd h List.not_mem_nil) (by decide) (by decide) (hts _ (List.mem_append_right _ exW_157)) (va_Nw.use rfl (hT.2.2.1 "java/lang/ArithmeticException" (by decide))) (fun qx H locs hS => ?_)
  refine lv_astore_n (lv' := [(2, .ref qx), (0, .ref (ad 0)), (1, .ref od)]) hx hb dL_busyShare_11 rfl hl (by decide) rfl (fun ls hl => ?_)
  refine lv_iconst (v := 1) hx hb dL_busyShare_12 (by decide) ?_
  refine W.widen (k := 1) (n := 6) (Nat.le_of_ble_eq_true rfl) (Nat.le_of_ble_eq_true rfl) ?_
  exact W.iret hx hb hr (fun t ht hW => ⟨rfl, trivial, hS.F2 ht⟩) (fun z hz => (hS.2.2 z hz).elim) dL_busyShare_13

set_option maxRecDepth 100000 in
set_option maxHeartbeats 4000000 in
theorem w_meanBytes_1 (l : Launch) (D : va_G) (cy : Nat → ClassId) {ad : Nat → Nat} {rw_ : Nat → Nat → Option Nat} {w : va_W} (F : FrC cy ad rw_ w) (hst : l.stackTraces = false) (oa : Nat) (f : Nat → Int64) (sz : Nat) (od : Nat) : MW l D cy ((oa, .inl (cy 2, 1, .inr (.inl f))) :: w) sz yL_meanBytes (wsL_meanBytes ++ exW) 7 1 6 102 [.ref (ad 0), .ref od] (some (.int 1)) (fun _ => True) := by
  refine wr_ofW (cc := cL_meanBytes) (maxL := 3) (ret := (some .int)) (hh := [(0, 7, 10, 157)]) (lv := [(0, .ref (ad 0)), (1, .ref od)]) (by decide) rfl (Nat.le_of_ble_eq_true rfl) rfl ?_
  intro p e s m below meth c ls hx hb hr hml hown hlocks htab hts hv hl
  have hown : s.vm.findClass RL = some m.cls := hown
  obtain ⟨⟨⟨hsz, hP, hD0⟩, hK, hN⟩, hT⟩ := hv
  subst hsz
  have hS : va_S (fun _ => False) s.heap s.heap [] := va_S.rf
  have F := frc_mono F (fun q hq => List.mem_cons_of_mem (oa, .inl (cy 2, 1, .inr (.inl f))) hq)
  refine lv_aload_n hx hb dL_meanBytes_0 rfl (lv_at hl 1 rfl) ?_
  refine lv_iconst (v := 0) hx hb dL_meanBytes_1 (by decide) ?_
  refine lv_aload_n hx hb dL_meanBytes_2 rfl (lv_at hl 0 rfl) ?_
  obtain ⟨k_1, hk_1⟩ := frc_hub F
  refine th_catchV (As := []) (rest := [.int 0, .ref od]) ⟨hx, hb, hml, hown, hts⟩ (c_meanBytes_x1 l D cy F hst) (cwV 0 hts (goodL gL_meanBytes_X9_meanBytes) rfl rfl rfl (by decide +kernel) ⟨by decide, by decide⟩) hK hN hP hT hS (ci := 14) (q0 := k_1) rfl hk_1 rfl rfl hl.1 rfl (Nat.le_of_ble_eq_true rfl) dL_meanBytes_3 ⟨Nat.le_of_ble_eq_true rfl, Nat.le_of_ble_eq_true rfl⟩ [] ⟨0, 7, 10, 157⟩ [] htab (fun _ h => absurd h List.not_mem_nil) (by decide) (by decide) (hts _ (List.mem_append_right _ exW_157)) (va_Nw.use rfl (hT.2.2.1 "java/lang/ArithmeticException" (by decide))) (fun qx H locs hS => ?_)
  refine lv_astore_n (lv' := [(2, .ref qx), (0, .ref (ad 0)), (1, .ref od)]) hx hb dL_meanBytes_10 rfl hl (by decide) rfl (fun ls hl => ?_)
  refine lv_iconst (v := 1) hx hb dL_meanBytes_11 (by decide) ?_
  refine W.widen (k := 1) (n := 6) (Nat.le_of_ble_eq_true rfl) (Nat.le_of_ble_eq_true rfl) ?_
  exact W.iret hx hb hr (fun t ht hW => ⟨rfl, trivial, hS.F2 ht⟩) (fun z hz => (hS.2.2 z hz).elim) dL_meanBytes_12

set_option maxRecDepth 100000 in
set_option maxHeartbeats 4000000 in
theorem w_taken_1 (l : Launch) (D : va_G) (cy : Nat → ClassId) {ad : Nat → Nat} {rw_ : Nat → Nat → Option Nat} {w : va_W} (F : FrC cy ad rw_ w) (hst : l.stackTraces = false) (oa : Nat) (f : Nat → Int64) (sz : Nat) (d n : Int32) : MW l D cy ((oa, .inl (cy 2, 1, .inr (.inl f))) :: w) sz yL_taken (wsL_taken ++ exW) 9 1 6 148 [.ref (ad 0), .int d, .int n, .ref oa] (some (.int 1)) (fun _ => True) := by
  refine wr_ofW (cc := cL_taken) (maxL := 5) (ret := (some .int)) (hh := [(0, 10, 13, 21), (0, 10, 17, 23)]) (lv := [(0, .ref (ad 0)), (1, .int d), (2, .int n), (3, .ref oa)]) (by decide) rfl (Nat.le_of_ble_eq_true rfl) rfl ?_
  intro p e s m below meth c ls hx hb hr hml hown hlocks htab hts hv hl
  have hown : s.vm.findClass RL = some m.cls := hown
  obtain ⟨⟨⟨hsz, hP, hD0⟩, hK, hN⟩, hT⟩ := hv
  subst hsz
  have hS : va_S (fun _ => False) s.heap s.heap [] := va_S.rf
  have F := frc_mono F (fun q hq => List.mem_cons_of_mem (oa, .inl (cy 2, 1, .inr (.inl f))) hq)
  refine lv_aload_n hx hb dL_taken_0 rfl (lv_at hl 3 rfl) ?_
  refine lv_iconst (v := 0) hx hb dL_taken_1 (by decide) ?_
  refine lv_aload_n hx hb dL_taken_2 rfl (lv_at hl 0 rfl) ?_
  refine lv_iload_n hx hb dL_taken_3 rfl (lv_at hl 1 rfl) ?_
  refine lv_iload_n hx hb dL_taken_4 rfl (lv_at hl 2 rfl) ?_
  obtain ⟨k_1, hk_1⟩ := frc_hub F
  refine th_catchV (As := [.int d, .int n]) (rest := [.int 0, .ref oa]) ⟨hx, hb, hml, hown, hts⟩ (c_taken_x1 l D cy F hst d n) (cwV 2 hts (goodL gL_taken_X9_taken) rfl rfl rfl (by decide +kernel) ⟨by decide, by decide⟩) hK hN hP hT hS (ci := 14) (q0 := k_1) rfl hk_1 rfl rfl hl.1 rfl (Nat.le_of_ble_eq_true rfl) dL_taken_5 ⟨Nat.le_of_ble_eq_true rfl, Nat.le_of_ble_eq_true rfl⟩ [] ⟨0, 10, 13, 21⟩ [⟨0, 10, 17, 23⟩] htab (fun _ h => absurd h List.not_mem_nil) (by decide) (by decide) (hts _ (List.mem_append_right _ exW_21)) (va_Nw.use rfl (hT.2.2.1 "java/lang/IndexOutOfBoundsException" (by decide))) (fun qx H locs hS => ?_)
  refine lv_astore (lv' := [(4, .ref qx), (0, .ref (ad 0)), (1, .int d), (2, .int n), (3, .ref oa)]) hx hb dL_taken_13 hl (by decide) rfl (fun ls hl => ?_)
  refine lv_iconst (v := 1) hx hb dL_taken_15 (by decide) ?_
  refine W.widen (k := 1) (n := 6) (Nat.le_of_ble_eq_true rfl) (Nat.le_of_ble_eq_true rfl) ?_
  exact W.iret hx hb hr (fun t ht hW => ⟨rfl, trivial, hS.F2 ht⟩) (fun z hz => (hS.2.2 z hz).elim) dL_taken_16

set_option maxRecDepth 100000 in
set_option maxHeartbeats 4000000 in
theorem w_waiting_1 (l : Launch) (D : va_G) (cy : Nat → ClassId) {ad : Nat → Nat} {rw_ : Nat → Nat → Option Nat} {w : va_W} (F : FrC cy ad rw_ w) (hst : l.stackTraces = false) (oa : Nat) (f : Nat → Int64) (sz : Nat) (d n : Int32) : MW l D cy ((oa, .inl (cy 2, 1, .inr (.inl f))) :: w) sz yL_waiting (wsL_waiting ++ exW) 8 1 6 126 [.ref (ad 0), .int d, .int n, .ref oa] (some (.int 1)) (fun _ => True) := by
  refine wr_ofW (cc := cL_waiting) (maxL := 5) (ret := (some .int)) (hh := [(0, 10, 13, 21), (0, 10, 17, 23)]) (lv := [(0, .ref (ad 0)), (1, .int d), (2, .int n), (3, .ref oa)]) (by decide) rfl (Nat.le_of_ble_eq_true rfl) rfl ?_
  intro p e s m below meth c ls hx hb hr hml hown hlocks htab hts hv hl
  have hown : s.vm.findClass RL = some m.cls := hown
  obtain ⟨⟨⟨hsz, hP, hD0⟩, hK, hN⟩, hT⟩ := hv
  subst hsz
  have hS : va_S (fun _ => False) s.heap s.heap [] := va_S.rf
  have F := frc_mono F (fun q hq => List.mem_cons_of_mem (oa, .inl (cy 2, 1, .inr (.inl f))) hq)
  refine lv_aload_n hx hb dL_waiting_0 rfl (lv_at hl 3 rfl) ?_
  refine lv_iconst (v := 0) hx hb dL_waiting_1 (by decide) ?_
  refine lv_aload_n hx hb dL_waiting_2 rfl (lv_at hl 0 rfl) ?_
  refine lv_iload_n hx hb dL_waiting_3 rfl (lv_at hl 1 rfl) ?_
  refine lv_iload_n hx hb dL_waiting_4 rfl (lv_at hl 2 rfl) ?_
  obtain ⟨k_1, hk_1⟩ := frc_hub F
  refine th_catchV (As := [.int d, .int n]) (rest := [.int 0, .ref oa]) ⟨hx, hb, hml, hown, hts⟩ (c_waiting_x1 l D cy F hst d n) (cwV 2 hts (goodL gL_waiting_X9_waiting) rfl rfl rfl (by decide +kernel) ⟨by decide, by decide⟩) hK hN hP hT hS (ci := 14) (q0 := k_1) rfl hk_1 rfl rfl hl.1 rfl (Nat.le_of_ble_eq_true rfl) dL_waiting_5 ⟨Nat.le_of_ble_eq_true rfl, Nat.le_of_ble_eq_true rfl⟩ [] ⟨0, 10, 13, 21⟩ [⟨0, 10, 17, 23⟩] htab (fun _ h => absurd h List.not_mem_nil) (by decide) (by decide) (hts _ (List.mem_append_right _ exW_21)) (va_Nw.use rfl (hT.2.2.1 "java/lang/IndexOutOfBoundsException" (by decide))) (fun qx H locs hS => ?_)
  refine lv_astore (lv' := [(4, .ref qx), (0, .ref (ad 0)), (1, .int d), (2, .int n), (3, .ref oa)]) hx hb dL_waiting_13 hl (by decide) rfl (fun ls hl => ?_)
  refine lv_iconst (v := 1) hx hb dL_waiting_15 (by decide) ?_
  refine W.widen (k := 1) (n := 6) (Nat.le_of_ble_eq_true rfl) (Nat.le_of_ble_eq_true rfl) ?_
  exact W.iret hx hb hr (fun t ht hW => ⟨rfl, trivial, hS.F2 ht⟩) (fun z hz => (hS.2.2 z hz).elim) dL_waiting_16

set_option maxRecDepth 100000 in
set_option maxHeartbeats 4000000 in
theorem w_takenAt_1 (l : Launch) (D : va_G) (cy : Nat → ClassId) {ad : Nat → Nat} {rw_ : Nat → Nat → Option Nat} {w : va_W} (F : FrC cy ad rw_ w) (hst : l.stackTraces = false) (oa : Nat) (f : Nat → Int64) (sz : Nat) (d n z : Int32) : MW l D cy ((oa, .inl (cy 2, 1, .inr (.inl f))) :: w) sz yL_takenAt (wsL_takenAt ++ exW) 9 1 6 149 [.ref (ad 0), .int d, .int n, .int z, .ref oa] (some (.int 1)) (fun _ => True) := by
  refine wr_ofW (cc := cL_takenAt) (maxL := 6) (ret := (some .int)) (hh := [(0, 12, 15, 21), (0, 12, 19, 23), (0, 12, 23, 56)]) (lv := [(0, .ref (ad 0)), (1, .int d), (2, .int n), (3, .int z), (4, .ref oa)]) (by decide) rfl (Nat.le_of_ble_eq_true rfl) rfl ?_
  intro p e s m below meth c ls hx hb hr hml hown hlocks htab hts hv hl
  have hown : s.vm.findClass RL = some m.cls := hown
  obtain ⟨⟨⟨hsz, hP, hD0⟩, hK, hN⟩, hT⟩ := hv
  subst hsz
  have hS : va_S (fun _ => False) s.heap s.heap [] := va_S.rf
  have F := frc_mono F (fun q hq => List.mem_cons_of_mem (oa, .inl (cy 2, 1, .inr (.inl f))) hq)
  refine lv_aload hx hb dL_takenAt_0 (lv_at hl 4 rfl) ?_
  refine lv_iconst (v := 0) hx hb dL_takenAt_2 (by decide) ?_
  refine lv_aload_n hx hb dL_takenAt_3 rfl (lv_at hl 0 rfl) ?_
  refine lv_iload_n hx hb dL_takenAt_4 rfl (lv_at hl 1 rfl) ?_
  refine lv_iload_n hx hb dL_takenAt_5 rfl (lv_at hl 2 rfl) ?_
  refine lv_iload_n hx hb dL_takenAt_6 rfl (lv_at hl 3 rfl) ?_
  obtain ⟨k_1, hk_1⟩ := frc_hub F
  refine th_catchV (As := [.int d, .int n, .int z]) (rest := [.int 0, .ref oa]) ⟨hx, hb, hml, hown, hts⟩ (c_takenAt_x1 l D cy F hst d n z) (cwV 3 hts (goodL gL_takenAt_X9_takenAt) rfl rfl rfl (by decide +kernel) ⟨by decide, by decide⟩) hK hN hP hT hS (ci := 14) (q0 := k_1) rfl hk_1 rfl rfl hl.1 rfl (Nat.le_of_ble_eq_true rfl) dL_takenAt_7 ⟨Nat.le_of_ble_eq_true rfl, Nat.le_of_ble_eq_true rfl⟩ [] ⟨0, 12, 15, 21⟩ [⟨0, 12, 19, 23⟩, ⟨0, 12, 23, 56⟩] htab (fun _ h => absurd h List.not_mem_nil) (by decide) (by decide) (hts _ (List.mem_append_right _ exW_21)) (va_Nw.use rfl (hT.2.2.1 "java/lang/IndexOutOfBoundsException" (by decide))) (fun qx H locs hS => ?_)
  refine lv_astore (lv' := [(5, .ref qx), (0, .ref (ad 0)), (1, .int d), (2, .int n), (3, .int z), (4, .ref oa)]) hx hb dL_takenAt_15 hl (by decide) rfl (fun ls hl => ?_)
  refine lv_iconst (v := 1) hx hb dL_takenAt_17 (by decide) ?_
  refine W.widen (k := 1) (n := 6) (Nat.le_of_ble_eq_true rfl) (Nat.le_of_ble_eq_true rfl) ?_
  exact W.iret hx hb hr (fun t ht hW => ⟨rfl, trivial, hS.F2 ht⟩) (fun z hz => (hS.2.2 z hz).elim) dL_takenAt_18

set_option maxRecDepth 100000 in
set_option maxHeartbeats 4000000 in
theorem w_gotAt_1 (l : Launch) (D : va_G) (cy : Nat → ClassId) {ad : Nat → Nat} {rw_ : Nat → Nat → Option Nat} {w : va_W} (F : FrC cy ad rw_ w) (hst : l.stackTraces = false) (oa : Nat) (f : Nat → Int64) (sz : Nat) (n : Int32) : MW l D cy ((oa, .inl (cy 2, 1, .inr (.inl f))) :: w) sz yL_gotAt (wsL_gotAt ++ exW) 8 1 6 124 [.ref (ad 0), .int n, .ref oa] (some (.int 1)) (fun _ => True) := by
  refine wr_ofW (cc := cL_gotAt) (maxL := 4) (ret := (some .int)) (hh := [(0, 9, 12, 56)]) (lv := [(0, .ref (ad 0)), (1, .int n), (2, .ref oa)]) (by decide) rfl (Nat.le_of_ble_eq_true rfl) rfl ?_
  intro p e s m below meth c ls hx hb hr hml hown hlocks htab hts hv hl
  have hown : s.vm.findClass RL = some m.cls := hown
  obtain ⟨⟨⟨hsz, hP, hD0⟩, hK, hN⟩, hT⟩ := hv
  subst hsz
  have hS : va_S (fun _ => False) s.heap s.heap [] := va_S.rf
  have F := frc_mono F (fun q hq => List.mem_cons_of_mem (oa, .inl (cy 2, 1, .inr (.inl f))) hq)
  refine lv_aload_n hx hb dL_gotAt_0 rfl (lv_at hl 2 rfl) ?_
  refine lv_iconst (v := 0) hx hb dL_gotAt_1 (by decide) ?_
  refine lv_aload_n hx hb dL_gotAt_2 rfl (lv_at hl 0 rfl) ?_
  refine lv_iload_n hx hb dL_gotAt_3 rfl (lv_at hl 1 rfl) ?_
  obtain ⟨k_1, hk_1⟩ := frc_hub F
  refine th_catchV (As := [.int n]) (rest := [.int 0, .ref oa]) ⟨hx, hb, hml, hown, hts⟩ (c_gotAt_x1 l D cy F hst n) (cwV 1 hts (goodL gL_gotAt_X9_gotAt) rfl rfl rfl (by decide +kernel) ⟨by decide, by decide⟩) hK hN hP hT hS (ci := 14) (q0 := k_1) rfl hk_1 rfl rfl hl.1 rfl (Nat.le_of_ble_eq_true rfl) dL_gotAt_4 ⟨Nat.le_of_ble_eq_true rfl, Nat.le_of_ble_eq_true rfl⟩ [] ⟨0, 9, 12, 56⟩ [] htab (fun _ h => absurd h List.not_mem_nil) (by decide) (by decide) (hts _ (List.mem_append_right _ exW_56)) (va_Nw.use rfl (hT.2.2.1 "java/util/NoSuchElementException" (by decide))) (fun qx H locs hS => ?_)
  refine lv_astore_n (lv' := [(3, .ref qx), (0, .ref (ad 0)), (1, .int n), (2, .ref oa)]) hx hb dL_gotAt_12 rfl hl (by decide) rfl (fun ls hl => ?_)
  refine lv_iconst (v := 1) hx hb dL_gotAt_13 (by decide) ?_
  refine W.widen (k := 1) (n := 6) (Nat.le_of_ble_eq_true rfl) (Nat.le_of_ble_eq_true rfl) ?_
  exact W.iret hx hb hr (fun t ht hW => ⟨rfl, trivial, hS.F2 ht⟩) (fun z hz => (hS.2.2 z hz).elim) dL_gotAt_14

set_option maxRecDepth 100000 in
set_option maxHeartbeats 4000000 in
theorem w_packets_0t (l : Launch) (D : va_G) (cy : Nat → ClassId) {ad : Nat → Nat} {rw_ : Nat → Nat → Option Nat} {w : va_W} (F : FrC cy ad rw_ w) (oa : Nat) (f : Nat → Int64) (sz : Nat) : MW l D cy ((oa, .inl (cy 2, 1, .inr (.inl f))) :: w) sz yL_packets (wsL_packets ++ exW) 1 0 0 21 [.ref (ad 0), .int 116, .ref oa] (some (.int 0)) (fun H => va_P D vwCl [(oa, .inl (cy 2, 1, .inr (.inl (vp_updL f 0 (0)))))] H) := by
  refine wr_ofW (cc := cL_packets) (maxL := 4) (ret := (some .int)) (hh := [(0, 9, 12, 13)]) (lv := [(0, .ref (ad 0)), (1, .int 116), (2, .ref oa)]) (by decide) rfl (Nat.le_of_ble_eq_true rfl) rfl ?_
  intro p e s m below meth c ls hx hb hr hml hown hlocks htab hts hv hl
  have hown : s.vm.findClass RL = some m.cls := hown
  obtain ⟨⟨⟨hsz, hP, hD0⟩, hK, hN⟩, hT⟩ := hv
  subst hsz
  have hD := hD0.self (sz := s.heap.size)
  generalize hAe : va_A ((oa, .inl (cy 2, 1, .inr (.inl f))) :: w) s.heap.size = A at hD ⊢
  have hA : ∀ q : Nat, s.heap.size ≤ q → A q := fun q h => by rw [← hAe]; exact Or.inr h
  have hS : va_S A s.heap s.heap [] := va_S.rf
  have F := frc_mono F (fun q hq => List.mem_cons_of_mem (oa, .inl (cy 2, 1, .inr (.inl f))) hq)
  refine lv_aload_n hx hb dL_packets_0 rfl (lv_at hl 2 rfl) ?_
  refine lv_iconst (v := 0) hx hb dL_packets_1 (by decide) ?_
  refine lv_aload_n hx hb dL_packets_2 rfl (lv_at hl 0 rfl) ?_
  refine lv_iload_n hx hb dL_packets_3 rfl (lv_at hl 1 rfl) ?_
  obtain ⟨k_1, hk_1⟩ := frc_hub F
  refine ro_callV (As := [.int 116]) (rest := [.int 0, .ref oa]) ⟨hx, hb, hml, hown, hts⟩ (c_packets_t l D cy F) (cwV 1 hts (goodL gL_packets_X9_packets) rfl rfl rfl (by decide +kernel) ⟨by decide, by decide⟩) hK hN hP hS (ci := 14) rfl hk_1 rfl rfl hl.1 rfl (Nat.le_of_ble_eq_true rfl) dL_packets_4 ⟨Nat.le_of_ble_eq_true rfl, Nat.le_of_ble_eq_true rfl⟩ (fun H locs hP hS => ?_)
  refine lv_i2l (v := 0) hx hb dL_packets_7 (by decide) ?_
  refine va_last hx hb hK hP hD hS 0 2 rfl rfl (by unfold vp_in; decide) dL_packets_8 (fun H locs hP hD hS => ?_)
  rw [my_upd0] at hP
  have hB := my_one (ko := 0) hP rfl
  refine lv_goto (tgt := 15) hx hb dL_packets_9 (by decide) ?_
  refine lv_iconst (v := 0) hx hb dL_packets_15 (by decide) ?_
  exact W.iret hx hb hr (fun t ht hW => ⟨rfl, by rw [ht]; exact hB, hS.F ht⟩) hS.2.2 dL_packets_16

set_option maxRecDepth 100000 in
set_option maxHeartbeats 4000000 in
theorem w_packets_0d (l : Launch) (D : va_G) (cy : Nat → ClassId) {ad : Nat → Nat} {rw_ : Nat → Nat → Option Nat} {w : va_W} (F : FrC cy ad rw_ w) (oa : Nat) (f : Nat → Int64) (sz : Nat) : MW l D cy ((oa, .inl (cy 2, 1, .inr (.inl f))) :: w) sz yL_packets (wsL_packets ++ exW) 1 0 0 21 [.ref (ad 0), .int 100, .ref oa] (some (.int 0)) (fun H => va_P D vwCl [(oa, .inl (cy 2, 1, .inr (.inl (vp_updL f 0 (0)))))] H) := by
  refine wr_ofW (cc := cL_packets) (maxL := 4) (ret := (some .int)) (hh := [(0, 9, 12, 13)]) (lv := [(0, .ref (ad 0)), (1, .int 100), (2, .ref oa)]) (by decide) rfl (Nat.le_of_ble_eq_true rfl) rfl ?_
  intro p e s m below meth c ls hx hb hr hml hown hlocks htab hts hv hl
  have hown : s.vm.findClass RL = some m.cls := hown
  obtain ⟨⟨⟨hsz, hP, hD0⟩, hK, hN⟩, hT⟩ := hv
  subst hsz
  have hD := hD0.self (sz := s.heap.size)
  generalize hAe : va_A ((oa, .inl (cy 2, 1, .inr (.inl f))) :: w) s.heap.size = A at hD ⊢
  have hA : ∀ q : Nat, s.heap.size ≤ q → A q := fun q h => by rw [← hAe]; exact Or.inr h
  have hS : va_S A s.heap s.heap [] := va_S.rf
  have F := frc_mono F (fun q hq => List.mem_cons_of_mem (oa, .inl (cy 2, 1, .inr (.inl f))) hq)
  refine lv_aload_n hx hb dL_packets_0 rfl (lv_at hl 2 rfl) ?_
  refine lv_iconst (v := 0) hx hb dL_packets_1 (by decide) ?_
  refine lv_aload_n hx hb dL_packets_2 rfl (lv_at hl 0 rfl) ?_
  refine lv_iload_n hx hb dL_packets_3 rfl (lv_at hl 1 rfl) ?_
  obtain ⟨k_1, hk_1⟩ := frc_hub F
  refine ro_callV (As := [.int 100]) (rest := [.int 0, .ref oa]) ⟨hx, hb, hml, hown, hts⟩ (c_packets_d l D cy F) (cwV 1 hts (goodL gL_packets_X9_packets) rfl rfl rfl (by decide +kernel) ⟨by decide, by decide⟩) hK hN hP hS (ci := 14) rfl hk_1 rfl rfl hl.1 rfl (Nat.le_of_ble_eq_true rfl) dL_packets_4 ⟨Nat.le_of_ble_eq_true rfl, Nat.le_of_ble_eq_true rfl⟩ (fun H locs hP hS => ?_)
  refine lv_i2l (v := 0) hx hb dL_packets_7 (by decide) ?_
  refine va_last hx hb hK hP hD hS 0 2 rfl rfl (by unfold vp_in; decide) dL_packets_8 (fun H locs hP hD hS => ?_)
  rw [my_upd0] at hP
  have hB := my_one (ko := 0) hP rfl
  refine lv_goto (tgt := 15) hx hb dL_packets_9 (by decide) ?_
  refine lv_iconst (v := 0) hx hb dL_packets_15 (by decide) ?_
  exact W.iret hx hb hr (fun t ht hW => ⟨rfl, by rw [ht]; exact hB, hS.F ht⟩) hS.2.2 dL_packets_16

set_option maxRecDepth 100000 in
set_option maxHeartbeats 4000000 in
theorem w_packets_0h (l : Launch) (D : va_G) (cy : Nat → ClassId) {ad : Nat → Nat} {rw_ : Nat → Nat → Option Nat} {w : va_W} (F : FrC cy ad rw_ w) (oa : Nat) (f : Nat → Int64) (sz : Nat) : MW l D cy ((oa, .inl (cy 2, 1, .inr (.inl f))) :: w) sz yL_packets (wsL_packets ++ exW) 1 0 0 21 [.ref (ad 0), .int 104, .ref oa] (some (.int 0)) (fun H => va_P D vwCl [(oa, .inl (cy 2, 1, .inr (.inl (vp_updL f 0 (0)))))] H) := by
  refine wr_ofW (cc := cL_packets) (maxL := 4) (ret := (some .int)) (hh := [(0, 9, 12, 13)]) (lv := [(0, .ref (ad 0)), (1, .int 104), (2, .ref oa)]) (by decide) rfl (Nat.le_of_ble_eq_true rfl) rfl ?_
  intro p e s m below meth c ls hx hb hr hml hown hlocks htab hts hv hl
  have hown : s.vm.findClass RL = some m.cls := hown
  obtain ⟨⟨⟨hsz, hP, hD0⟩, hK, hN⟩, hT⟩ := hv
  subst hsz
  have hD := hD0.self (sz := s.heap.size)
  generalize hAe : va_A ((oa, .inl (cy 2, 1, .inr (.inl f))) :: w) s.heap.size = A at hD ⊢
  have hA : ∀ q : Nat, s.heap.size ≤ q → A q := fun q h => by rw [← hAe]; exact Or.inr h
  have hS : va_S A s.heap s.heap [] := va_S.rf
  have F := frc_mono F (fun q hq => List.mem_cons_of_mem (oa, .inl (cy 2, 1, .inr (.inl f))) hq)
  refine lv_aload_n hx hb dL_packets_0 rfl (lv_at hl 2 rfl) ?_
  refine lv_iconst (v := 0) hx hb dL_packets_1 (by decide) ?_
  refine lv_aload_n hx hb dL_packets_2 rfl (lv_at hl 0 rfl) ?_
  refine lv_iload_n hx hb dL_packets_3 rfl (lv_at hl 1 rfl) ?_
  obtain ⟨k_1, hk_1⟩ := frc_hub F
  refine ro_callV (As := [.int 104]) (rest := [.int 0, .ref oa]) ⟨hx, hb, hml, hown, hts⟩ (c_packets_h l D cy F) (cwV 1 hts (goodL gL_packets_X9_packets) rfl rfl rfl (by decide +kernel) ⟨by decide, by decide⟩) hK hN hP hS (ci := 14) rfl hk_1 rfl rfl hl.1 rfl (Nat.le_of_ble_eq_true rfl) dL_packets_4 ⟨Nat.le_of_ble_eq_true rfl, Nat.le_of_ble_eq_true rfl⟩ (fun H locs hP hS => ?_)
  refine lv_i2l (v := 0) hx hb dL_packets_7 (by decide) ?_
  refine va_last hx hb hK hP hD hS 0 2 rfl rfl (by unfold vp_in; decide) dL_packets_8 (fun H locs hP hD hS => ?_)
  rw [my_upd0] at hP
  have hB := my_one (ko := 0) hP rfl
  refine lv_goto (tgt := 15) hx hb dL_packets_9 (by decide) ?_
  refine lv_iconst (v := 0) hx hb dL_packets_15 (by decide) ?_
  exact W.iret hx hb hr (fun t ht hW => ⟨rfl, by rw [ht]; exact hB, hS.F ht⟩) hS.2.2 dL_packets_16

set_option maxRecDepth 100000 in
set_option maxHeartbeats 4000000 in
theorem w_packets_1 (l : Launch) (D : va_G) (cy : Nat → ClassId) {ad : Nat → Nat} {rw_ : Nat → Nat → Option Nat} {w : va_W} (F : FrC cy ad rw_ w) (hst : l.stackTraces = false) (oa : Nat) (f : Nat → Int64) (sz : Nat) (q : Int32) (h1 : ¬ q = 116) (h2 : ¬ q = 100) (h3 : ¬ q = 104) : MW l D cy ((oa, .inl (cy 2, 1, .inr (.inl f))) :: w) sz yL_packets (wsL_packets ++ exW) 7 1 6 103 [.ref (ad 0), .int q, .ref oa] (some (.int 1)) (fun _ => True) := by
  refine wr_ofW (cc := cL_packets) (maxL := 4) (ret := (some .int)) (hh := [(0, 9, 12, 13)]) (lv := [(0, .ref (ad 0)), (1, .int q), (2, .ref oa)]) (by decide) rfl (Nat.le_of_ble_eq_true rfl) rfl ?_
  intro p e s m below meth c ls hx hb hr hml hown hlocks htab hts hv hl
  have hown : s.vm.findClass RL = some m.cls := hown
  obtain ⟨⟨⟨hsz, hP, hD0⟩, hK, hN⟩, hT⟩ := hv
  subst hsz
  have hS : va_S (fun _ => False) s.heap s.heap [] := va_S.rf
  have F := frc_mono F (fun q hq => List.mem_cons_of_mem (oa, .inl (cy 2, 1, .inr (.inl f))) hq)
  refine lv_aload_n hx hb dL_packets_0 rfl (lv_at hl 2 rfl) ?_
  refine lv_iconst (v := 0) hx hb dL_packets_1 (by decide) ?_
  refine lv_aload_n hx hb dL_packets_2 rfl (lv_at hl 0 rfl) ?_
  refine lv_iload_n hx hb dL_packets_3 rfl (lv_at hl 1 rfl) ?_
  obtain ⟨k_1, hk_1⟩ := frc_hub F
  refine th_catchV (As := [.int q]) (rest := [.int 0, .ref oa]) ⟨hx, hb, hml, hown, hts⟩ (c_packets_x1 l D cy F hst q h1 h2 h3) (cwV 1 hts (goodL gL_packets_X9_packets) rfl rfl rfl (by decide +kernel) ⟨by decide, by decide⟩) hK hN hP hT hS (ci := 14) (q0 := k_1) rfl hk_1 rfl rfl hl.1 rfl (Nat.le_of_ble_eq_true rfl) dL_packets_4 ⟨Nat.le_of_ble_eq_true rfl, Nat.le_of_ble_eq_true rfl⟩ [] ⟨0, 9, 12, 13⟩ [] htab (fun _ h => absurd h List.not_mem_nil) (by decide) (by decide) (hts _ (List.mem_append_right _ exW_13)) (va_Nw.use rfl (hT.2.2.1 "java/lang/IllegalArgumentException" (by decide))) (fun qx H locs hS => ?_)
  refine lv_astore_n (lv' := [(3, .ref qx), (0, .ref (ad 0)), (1, .int q), (2, .ref oa)]) hx hb dL_packets_12 rfl hl (by decide) rfl (fun ls hl => ?_)
  refine lv_iconst (v := 1) hx hb dL_packets_13 (by decide) ?_
  refine W.widen (k := 1) (n := 6) (Nat.le_of_ble_eq_true rfl) (Nat.le_of_ble_eq_true rfl) ?_
  exact W.iret hx hb hr (fun t ht hW => ⟨rfl, trivial, hS.F2 ht⟩) (fun z hz => (hS.2.2 z hz).elim) dL_packets_14
