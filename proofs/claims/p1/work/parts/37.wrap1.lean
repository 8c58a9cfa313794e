set_option maxRecDepth 100000 in
set_option maxHeartbeats 4000000 in
theorem w_make_1 (l : Launch) (D : va_G) (cy : Nat → ClassId) {ad : Nat → Nat} {rw_ : Nat → Nat → Option Nat} {w : va_W} (F : FrC cy ad rw_ w) (hst : l.stackTraces = false) (oa : Nat) (f : Nat → Int64) (sz : Nat) (q a b o z : Int32) (h : ¬ ((q = 108 ∨ q = 102 ∨ q = 104) ∧ (¬ a < 0 ∧ ¬ 4 < a) ∧ (¬ b < 1 ∧ ¬ 5 < b) ∧ (¬ z < 0 ∧ ¬ 99 < z) ∧ ¬ (q = 108 ∧ 0 < a))) : MW l D cy ((oa, .inl (cy 2, 1, .inr (.inl f))) :: w) sz yL_make (wsL_make ++ exW) 7 1 6 108 [.ref (ad 0), .int q, .int a, .int b, .int o, .int z, .ref oa] (some (.int 1)) (fun _ => True) := by
  refine wr_ofW (cc := cL_make) (maxL := 8) (ret := (some .int)) (hh := [(0, 16, 19, 13), (0, 16, 23, 15)]) (lv := [(0, .ref (ad 0)), (1, .int q), (2, .int a), (3, .int b), (4, .int o), (5, .int z), (6, .ref oa)]) (by decide) rfl (Nat.le_of_ble_eq_true rfl) rfl ?_
  intro p e s m below meth c ls hx hb hr hml hown hlocks htab hts hv hl
  have hown : s.vm.findClass RL = some m.cls := hown
  obtain ⟨⟨⟨hsz, hP, hD0⟩, hK, hN⟩, hT⟩ := hv
  subst hsz
  have hS : va_S (fun _ => False) s.heap s.heap [] := va_S.rf
  have F := frc_mono F (fun q hq => List.mem_cons_of_mem (oa, .inl (cy 2, 1, .inr (.inl f))) hq)
  refine lv_aload hx hb dL_make_0 (lv_at hl 6 rfl) ?_
  refine lv_iconst (v := 0) hx hb dL_make_2 (by decide) ?_
  refine lv_aload_n hx hb dL_make_3 rfl (lv_at hl 0 rfl) ?_
  refine lv_iload_n hx hb dL_make_4 rfl (lv_at hl 1 rfl) ?_
  refine lv_iload_n hx hb dL_make_5 rfl (lv_at hl 2 rfl) ?_
  refine lv_iload_n hx hb dL_make_6 rfl (lv_at hl 3 rfl) ?_
  refine lv_iload hx hb dL_make_7 (lv_at hl 4 rfl) ?_
  refine lv_iload hx hb dL_make_9 (lv_at hl 5 rfl) ?_
  obtain ⟨k_1, hk_1⟩ := frc_hub F
  refine th_catchV (As := [.int q, .int a, .int b, .int o, .int z]) (rest := [.int 0, .ref oa]) ⟨hx, hb, hml, hown, hts⟩ (c_make_x1 l D cy F hst q a b o z h) (cwV 5 hts (goodL gL_make_X9_make) rfl rfl rfl (by decide +kernel) ⟨by decide, by decide⟩) hK hN hP hT hS (ci := 14) (q0 := k_1) rfl hk_1 rfl rfl hl.1 rfl (Nat.le_of_ble_eq_true rfl) dL_make_11 ⟨Nat.le_of_ble_eq_true rfl, Nat.le_of_ble_eq_true rfl⟩ [] ⟨0, 16, 19, 13⟩ [⟨0, 16, 23, 15⟩] htab (fun _ h => absurd h List.not_mem_nil) (by decide) (by decide) (hts _ (List.mem_append_right _ exW_13)) (va_Nw.use rfl (hT.2.2.1 "java/lang/IllegalArgumentException" (by decide))) (fun qx H locs hS => ?_)
  refine lv_astore (lv' := [(7, .ref qx), (0, .ref (ad 0)), (1, .int q), (2, .int a), (3, .int b), (4, .int o), (5, .int z), (6, .ref oa)]) hx hb dL_make_19 hl (by decide) rfl (fun ls hl => ?_)
  refine lv_iconst (v := 1) hx hb dL_make_21 (by decide) ?_
  refine W.widen (k := 1) (n := 6) (Nat.le_of_ble_eq_true rfl) (Nat.le_of_ble_eq_true rfl) ?_
  exact W.iret hx hb hr (fun t ht hW => ⟨rfl, trivial, hS.F2 ht⟩) (fun z hz => (hS.2.2 z hz).elim) dL_make_22

set_option maxRecDepth 100000 in
set_option maxHeartbeats 4000000 in
theorem w_make_0 (l : Launch) (D : va_G) (cy : Nat → ClassId) {ad : Nat → Nat} {rw_ : Nat → Nat → Option Nat} {w : va_W} (F : FrC cy ad rw_ w) (oa : Nat) (f : Nat → Int64) (sz : Nat) (q a b o z : Int32) (h1 : (q = 108 ∨ q = 102 ∨ q = 104)) (h2 : ¬ a < 0 ∧ ¬ 4 < a) (h3 : ¬ b < 1 ∧ ¬ 5 < b) (h4 : ¬ z < 0 ∧ ¬ 99 < z) (h5 : ¬ (q = 108 ∧ 0 < a)) (hnq : narrow .char (.int q) = .int q) (hfq : fits .char (.int q) = true) (hno : narrow .boolean (.int o) = .int o) (hfo : fits .boolean (.int o) = true) : MW l D cy ((oa, .inl (cy 2, 1, .inr (.inl f))) :: w) sz yL_make (wsL_make ++ exW) 2 0 0 48 [.ref (ad 0), .int q, .int a, .int b, .int o, .int z, .ref oa] (some (.int 0)) (fun H => va_P D vwCl [(oa, .inl (cy 2, 1, .inr (.inl (vp_updL f 0 ((nI 1).toInt64)))))] H) := by
  refine wr_ofW (cc := cL_make) (maxL := 8) (ret := (some .int)) (hh := [(0, 16, 19, 13), (0, 16, 23, 15)]) (lv := [(0, .ref (ad 0)), (1, .int q), (2, .int a), (3, .int b), (4, .int o), (5, .int z), (6, .ref oa)]) (by decide) rfl (Nat.le_of_ble_eq_true rfl) rfl ?_
  intro p e s m below meth c ls hx hb hr hml hown hlocks htab hts hv hl
  have hown : s.vm.findClass RL = some m.cls := hown
  obtain ⟨⟨⟨hsz, hP, hD0⟩, hK, hN⟩, hT⟩ := hv
  subst hsz
  have hD := hD0.self (sz := s.heap.size)
  generalize hAe : va_A ((oa, .inl (cy 2, 1, .inr (.inl f))) :: w) s.heap.size = A at hD ⊢
  have hA : ∀ q : Nat, s.heap.size ≤ q → A q := fun q h => by rw [← hAe]; exact Or.inr h
  have hS : va_S A s.heap s.heap [] := va_S.rf
  have hP : va_P D vwCl ([(oa, .inl (cy 2, 1, .inr (.inl f)))] ++ w) s.heap := hP
  have hD : va_D A ([(oa, .inl (cy 2, 1, .inr (.inl f)))] ++ w) := hD
  refine lv_aload hx hb dL_make_0 (lv_at hl 6 rfl) ?_
  refine lv_iconst (v := 0) hx hb dL_make_2 (by decide) ?_
  refine lv_aload_n hx hb dL_make_3 rfl (lv_at hl 0 rfl) ?_
  refine lv_iload_n hx hb dL_make_4 rfl (lv_at hl 1 rfl) ?_
  refine lv_iload_n hx hb dL_make_5 rfl (lv_at hl 2 rfl) ?_
  refine lv_iload_n hx hb dL_make_6 rfl (lv_at hl 3 rfl) ?_
  refine lv_iload hx hb dL_make_7 (lv_at hl 4 rfl) ?_
  refine lv_iload hx hb dL_make_9 (lv_at hl 5 rfl) ?_
  obtain ⟨k_1, hk_1⟩ := frc_hub F
  refine me_callV (wr := [(oa, .inl (cy 2, 1, .inr (.inl f)))]) (wc := w) (As := [.int q, .int a, .int b, .int o, .int z]) (rest := [.int 0, .ref oa]) ⟨hx, hb, hml, hown, hts⟩ (m_make_w l D cy F _ q a b o z h1 h2 h3 h4 h5 hnq hfq hno hfo) (cwV 5 hts (goodL gL_make_X9_make) rfl rfl rfl (by decide +kernel) ⟨by decide, by decide⟩) hK hN hP hD hS hA (ci := 14) (q0 := k_1) rfl hk_1 rfl rfl hl.1 rfl (Nat.le_of_ble_eq_true rfl) dL_make_11 ⟨Nat.le_of_ble_eq_true rfl, Nat.le_of_ble_eq_true rfl⟩ (fun H locs hB hJ hS => ?_)
  obtain ⟨hP, hD⟩ := hJ [] (fun k q h => by simp at h) ⟨fun i j p q h => by simp at h, fun k q h => by simp at h⟩
  have hP : va_P D vwCl [(oa, .inl (cy 2, 1, .inr (.inl f)))] H := hP
  have hD : va_D A [(oa, .inl (cy 2, 1, .inr (.inl f)))] := hD
  refine lv_i2l (v := (nI 1).toInt64) hx hb dL_make_14 rfl ?_
  refine va_last hx hb hK hP hD hS 0 2 rfl rfl (by unfold vp_in; decide) dL_make_15 (fun H locs hP hD hS => ?_)
  rw [my_upd0] at hP
  have hB := my_one (ko := 0) hP rfl
  refine lv_goto (tgt := 27) hx hb dL_make_16 (by decide) ?_
  refine lv_iconst (v := 0) hx hb dL_make_27 (by decide) ?_
  exact W.iret hx hb hr (fun t ht hW => ⟨rfl, by rw [ht]; exact hB, hS.F ht⟩) hS.2.2 dL_make_28

set_option maxRecDepth 100000 in
set_option maxHeartbeats 4000000 in
theorem w_endpoint_1 (l : Launch) (D : va_G) (cy : Nat → ClassId) {ad : Nat → Nat} {rw_ : Nat → Nat → Option Nat} {w : va_W} (F : FrC cy ad rw_ w) (hst : l.stackTraces = false) (oa : Nat) (f : Nat → Int64) (sz : Nat) (d n o z : Int32) (hd : ¬ d = 0) : MW l D cy ((oa, .inl (cy 2, 1, .inr (.inl f))) :: w) sz yL_endpoint (wsL_endpoint ++ exW) 8 1 6 129 [.ref (ad 0), .int d, .int n, .int o, .int z, .ref oa] (some (.int 1)) (fun _ => True) := by
  refine wr_ofW (cc := cL_endpoint) (maxL := 7) (ret := (some .int)) (hh := [(0, 14, 17, 21), (0, 14, 21, 13), (0, 14, 25, 23)]) (lv := [(0, .ref (ad 0)), (1, .int d), (2, .int n), (3, .int o), (4, .int z), (5, .ref oa)]) (by decide) rfl (Nat.le_of_ble_eq_true rfl) rfl ?_
  intro p e s m below meth c ls hx hb hr hml hown hlocks htab hts hv hl
  have hown : s.vm.findClass RL = some m.cls := hown
  obtain ⟨⟨⟨hsz, hP, hD0⟩, hK, hN⟩, hT⟩ := hv
  subst hsz
  have hS : va_S (fun _ => False) s.heap s.heap [] := va_S.rf
  have F := frc_mono F (fun q hq => List.mem_cons_of_mem (oa, .inl (cy 2, 1, .inr (.inl f))) hq)
  refine lv_aload hx hb dL_endpoint_0 (lv_at hl 5 rfl) ?_
  refine lv_iconst (v := 0) hx hb dL_endpoint_2 (by decide) ?_
  refine lv_aload_n hx hb dL_endpoint_3 rfl (lv_at hl 0 rfl) ?_
  refine lv_iload_n hx hb dL_endpoint_4 rfl (lv_at hl 1 rfl) ?_
  refine lv_iload_n hx hb dL_endpoint_5 rfl (lv_at hl 2 rfl) ?_
  refine lv_iload_n hx hb dL_endpoint_6 rfl (lv_at hl 3 rfl) ?_
  refine lv_iload hx hb dL_endpoint_7 (lv_at hl 4 rfl) ?_
  obtain ⟨k_1, hk_1⟩ := frc_hub F
  refine th_catchV (As := [.int d, .int n, .int o, .int z]) (rest := [.int 0, .ref oa]) ⟨hx, hb, hml, hown, hts⟩ (c_endpoint_x1 l D cy F hst d n o z hd) (cwV 4 hts (goodL gL_endpoint_X9_endpoint) rfl rfl rfl (by decide +kernel) ⟨by decide, by decide⟩) hK hN hP hT hS (ci := 14) (q0 := k_1) rfl hk_1 rfl rfl hl.1 rfl (Nat.le_of_ble_eq_true rfl) dL_endpoint_9 ⟨Nat.le_of_ble_eq_true rfl, Nat.le_of_ble_eq_true rfl⟩ [] ⟨0, 14, 17, 21⟩ [⟨0, 14, 21, 13⟩, ⟨0, 14, 25, 23⟩] htab (fun _ h => absurd h List.not_mem_nil) (by decide) (by decide) (hts _ (List.mem_append_right _ exW_21)) (va_Nw.use rfl (hT.2.2.1 "java/lang/IndexOutOfBoundsException" (by decide))) (fun qx H locs hS => ?_)
  refine lv_astore (lv' := [(6, .ref qx), (0, .ref (ad 0)), (1, .int d), (2, .int n), (3, .int o), (4, .int z), (5, .ref oa)]) hx hb dL_endpoint_17 hl (by decide) rfl (fun ls hl => ?_)
  refine lv_iconst (v := 1) hx hb dL_endpoint_19 (by decide) ?_
  refine W.widen (k := 1) (n := 6) (Nat.le_of_ble_eq_true rfl) (Nat.le_of_ble_eq_true rfl) ?_
  exact W.iret hx hb hr (fun t ht hW => ⟨rfl, trivial, hS.F2 ht⟩) (fun z hz => (hS.2.2 z hz).elim) dL_endpoint_20

set_option maxRecDepth 100000 in
set_option maxHeartbeats 4000000 in
theorem w_endpoint_2 (l : Launch) (D : va_G) (cy : Nat → ClassId) {ad : Nat → Nat} {rw_ : Nat → Nat → Option Nat} {w : va_W} (F : FrC cy ad rw_ w) (hst : l.stackTraces = false) (oa : Nat) (f : Nat → Int64) (sz : Nat) (n o z : Int32) (h : ¬ ((¬ n < 1 ∧ ¬ 3 < n) ∧ (¬ z < 1 ∧ ¬ 8 < z))) : MW l D cy ((oa, .inl (cy 2, 1, .inr (.inl f))) :: w) sz yL_endpoint (wsL_endpoint ++ exW) 7 1 6 108 [.ref (ad 0), .int 0, .int n, .int o, .int z, .ref oa] (some (.int 2)) (fun _ => True) := by
  refine wr_ofW (cc := cL_endpoint) (maxL := 7) (ret := (some .int)) (hh := [(0, 14, 17, 21), (0, 14, 21, 13), (0, 14, 25, 23)]) (lv := [(0, .ref (ad 0)), (1, .int 0), (2, .int n), (3, .int o), (4, .int z), (5, .ref oa)]) (by decide) rfl (Nat.le_of_ble_eq_true rfl) rfl ?_
  intro p e s m below meth c ls hx hb hr hml hown hlocks htab hts hv hl
  have hown : s.vm.findClass RL = some m.cls := hown
  obtain ⟨⟨⟨hsz, hP, hD0⟩, hK, hN⟩, hT⟩ := hv
  subst hsz
  have hS : va_S (fun _ => False) s.heap s.heap [] := va_S.rf
  have F := frc_mono F (fun q hq => List.mem_cons_of_mem (oa, .inl (cy 2, 1, .inr (.inl f))) hq)
  refine lv_aload hx hb dL_endpoint_0 (lv_at hl 5 rfl) ?_
  refine lv_iconst (v := 0) hx hb dL_endpoint_2 (by decide) ?_
  refine lv_aload_n hx hb dL_endpoint_3 rfl (lv_at hl 0 rfl) ?_
  refine lv_iload_n hx hb dL_endpoint_4 rfl (lv_at hl 1 rfl) ?_
  refine lv_iload_n hx hb dL_endpoint_5 rfl (lv_at hl 2 rfl) ?_
  refine lv_iload_n hx hb dL_endpoint_6 rfl (lv_at hl 3 rfl) ?_
  refine lv_iload hx hb dL_endpoint_7 (lv_at hl 4 rfl) ?_
  obtain ⟨k_1, hk_1⟩ := frc_hub F
  refine th_catchV (As := [.int 0, .int n, .int o, .int z]) (rest := [.int 0, .ref oa]) ⟨hx, hb, hml, hown, hts⟩ (c_endpoint_x2 l D cy F hst n o z h) (cwV 4 hts (goodL gL_endpoint_X9_endpoint) rfl rfl rfl (by decide +kernel) ⟨by decide, by decide⟩) hK hN hP hT hS (ci := 14) (q0 := k_1) rfl hk_1 rfl rfl hl.1 rfl (Nat.le_of_ble_eq_true rfl) dL_endpoint_9 ⟨Nat.le_of_ble_eq_true rfl, Nat.le_of_ble_eq_true rfl⟩ [⟨0, 14, 17, 21⟩] ⟨0, 14, 21, 13⟩ [⟨0, 14, 25, 23⟩] htab (by intro z hz; simp only [List.mem_cons, List.not_mem_nil, or_false] at hz; subst hz; exact Or.inr ⟨by decide, "java/lang/IndexOutOfBoundsException", hts _ (List.mem_append_right _ exW_21), hT.2.2.2.2 "java/lang/IllegalArgumentException" (by decide) "java/lang/IndexOutOfBoundsException" (by decide) (by decide)⟩) (by decide) (by decide) (hts _ (List.mem_append_right _ exW_13)) (va_Nw.use rfl (hT.2.2.1 "java/lang/IllegalArgumentException" (by decide))) (fun qx H locs hS => ?_)
  refine lv_astore (lv' := [(6, .ref qx), (0, .ref (ad 0)), (1, .int 0), (2, .int n), (3, .int o), (4, .int z), (5, .ref oa)]) hx hb dL_endpoint_21 hl (by decide) rfl (fun ls hl => ?_)
  refine lv_iconst (v := 2) hx hb dL_endpoint_23 (by decide) ?_
  refine W.widen (k := 1) (n := 6) (Nat.le_of_ble_eq_true rfl) (Nat.le_of_ble_eq_true rfl) ?_
  exact W.iret hx hb hr (fun t ht hW => ⟨rfl, trivial, hS.F2 ht⟩) (fun z hz => (hS.2.2 z hz).elim) dL_endpoint_24

set_option maxRecDepth 100000 in
set_option maxHeartbeats 4000000 in
theorem w_endpoint_3 (l : Launch) (D : va_G) (cy : Nat → ClassId) {ad : Nat → Nat} {rw_ : Nat → Nat → Option Nat} {w : va_W} (F : FrC cy ad rw_ w) (hst : l.stackTraces = false) (oa : Nat) (f : Nat → Int64) (sz : Nat) (j : Nat) (o z : Int32) (hj : j < 3) (hz : ¬ z < 1 ∧ ¬ 8 < z) : MW l D cy ((oa, .inl (cy 2, 1, .inr (.inl f))) :: w) sz yL_endpoint (wsL_endpoint ++ exW) 7 1 6 108 [.ref (ad 0), .int 0, .int (nI (j + 1)), .int o, .int z, .ref oa] (some (.int 3)) (fun _ => True) := by
  refine wr_ofW (cc := cL_endpoint) (maxL := 7) (ret := (some .int)) (hh := [(0, 14, 17, 21), (0, 14, 21, 13), (0, 14, 25, 23)]) (lv := [(0, .ref (ad 0)), (1, .int 0), (2, .int (nI (j + 1))), (3, .int o), (4, .int z), (5, .ref oa)]) (by decide) rfl (Nat.le_of_ble_eq_true rfl) rfl ?_
  intro p e s m below meth c ls hx hb hr hml hown hlocks htab hts hv hl
  have hown : s.vm.findClass RL = some m.cls := hown
  obtain ⟨⟨⟨hsz, hP, hD0⟩, hK, hN⟩, hT⟩ := hv
  subst hsz
  have hS : va_S (fun _ => False) s.heap s.heap [] := va_S.rf
  have F := frc_mono F (fun q hq => List.mem_cons_of_mem (oa, .inl (cy 2, 1, .inr (.inl f))) hq)
  refine lv_aload hx hb dL_endpoint_0 (lv_at hl 5 rfl) ?_
  refine lv_iconst (v := 0) hx hb dL_endpoint_2 (by decide) ?_
  refine lv_aload_n hx hb dL_endpoint_3 rfl (lv_at hl 0 rfl) ?_
  refine lv_iload_n hx hb dL_endpoint_4 rfl (lv_at hl 1 rfl) ?_
  refine lv_iload_n hx hb dL_endpoint_5 rfl (lv_at hl 2 rfl) ?_
  refine lv_iload_n hx hb dL_endpoint_6 rfl (lv_at hl 3 rfl) ?_
  refine lv_iload hx hb dL_endpoint_7 (lv_at hl 4 rfl) ?_
  obtain ⟨k_1, hk_1⟩ := frc_hub F
  refine th_catchV (As := [.int 0, .int (nI (j + 1)), .int o, .int z]) (rest := [.int 0, .ref oa]) ⟨hx, hb, hml, hown, hts⟩ (c_endpoint_x3 l D cy F hst j o z hj hz) (cwV 4 hts (goodL gL_endpoint_X9_endpoint) rfl rfl rfl (by decide +kernel) ⟨by decide, by decide⟩) hK hN hP hT hS (ci := 14) (q0 := k_1) rfl hk_1 rfl rfl hl.1 rfl (Nat.le_of_ble_eq_true rfl) dL_endpoint_9 ⟨Nat.le_of_ble_eq_true rfl, Nat.le_of_ble_eq_true rfl⟩ [⟨0, 14, 17, 21⟩, ⟨0, 14, 21, 13⟩] ⟨0, 14, 25, 23⟩ [] htab (by intro z hz; simp only [List.mem_cons, List.not_mem_nil, or_false] at hz; rcases hz with rfl | rfl <;> first | exact Or.inr ⟨by decide, "java/lang/IndexOutOfBoundsException", hts _ (List.mem_append_right _ exW_21), hT.2.2.2.2 "java/lang/UnsupportedOperationException" (by decide) "java/lang/IndexOutOfBoundsException" (by decide) (by decide)⟩ | exact Or.inr ⟨by decide, "java/lang/IllegalArgumentException", hts _ (List.mem_append_right _ exW_13), hT.2.2.2.2 "java/lang/UnsupportedOperationException" (by decide) "java/lang/IllegalArgumentException" (by decide) (by decide)⟩) (by decide) (by decide) (hts _ (List.mem_append_right _ exW_23)) (va_Nw.use rfl (hT.2.2.1 "java/lang/UnsupportedOperationException" (by decide))) (fun qx H locs hS => ?_)
  refine lv_astore (lv' := [(6, .ref qx), (0, .ref (ad 0)), (1, .int 0), (2, .int (nI (j + 1))), (3, .int o), (4, .int z), (5, .ref oa)]) hx hb dL_endpoint_25 hl (by decide) rfl (fun ls hl => ?_)
  refine lv_iconst (v := 3) hx hb dL_endpoint_27 (by decide) ?_
  refine W.widen (k := 1) (n := 6) (Nat.le_of_ble_eq_true rfl) (Nat.le_of_ble_eq_true rfl) ?_
  exact W.iret hx hb hr (fun t ht hW => ⟨rfl, trivial, hS.F2 ht⟩) (fun z hz => (hS.2.2 z hz).elim) dL_endpoint_28

set_option maxRecDepth 100000 in
set_option maxHeartbeats 4000000 in
theorem w_plug_1a (l : Launch) (D : va_G) (cy : Nat → ClassId) {ad : Nat → Nat} {rw_ : Nat → Nat → Option Nat} {w : va_W} (F : FrC cy ad rw_ w) (hst : l.stackTraces = false) (oa : Nat) (f : Nat → Int64) (sz : Nat) (d n z : Int32) (hd : ¬ d = 0) : MW l D cy ((oa, .inl (cy 2, 1, .inr (.inl f))) :: w) sz yL_plug (wsL_plug ++ exW) 8 1 6 128 [.ref (ad 0), .int d, .int n, .int z, .ref oa] (some (.int 1)) (fun _ => True) := by
  refine wr_ofW (cc := cL_plug) (maxL := 6) (ret := (some .int)) (hh := [(0, 12, 15, 21), (0, 12, 19, 23)]) (lv := [(0, .ref (ad 0)), (1, .int d), (2, .int n), (3, .int z), (4, .ref oa)]) (by decide) rfl (Nat.le_of_ble_eq_true rfl) rfl ?_
  intro p e s m below meth c ls hx hb hr hml hown hlocks htab hts hv hl
  have hown : s.vm.findClass RL = some m.cls := hown
  obtain ⟨⟨⟨hsz, hP, hD0⟩, hK, hN⟩, hT⟩ := hv
  subst hsz
  have hS : va_S (fun _ => False) s.heap s.heap [] := va_S.rf
  have F := frc_mono F (fun q hq => List.mem_cons_of_mem (oa, .inl (cy 2, 1, .inr (.inl f))) hq)
  refine lv_aload hx hb dL_plug_0 (lv_at hl 4 rfl) ?_
  refine lv_iconst (v := 0) hx hb dL_plug_2 (by decide) ?_
  refine lv_aload_n hx hb dL_plug_3 rfl (lv_at hl 0 rfl) ?_
  refine lv_iload_n hx hb dL_plug_4 rfl (lv_at hl 1 rfl) ?_
  refine lv_iload_n hx hb dL_plug_5 rfl (lv_at hl 2 rfl) ?_
  refine lv_iload_n hx hb dL_plug_6 rfl (lv_at hl 3 rfl) ?_
  obtain ⟨k_1, hk_1⟩ := frc_hub F
  refine th_catchV (As := [.int d, .int n, .int z]) (rest := [.int 0, .ref oa]) ⟨hx, hb, hml, hown, hts⟩ (c_plug_x1a l D cy F hst d n z hd) (cwV 3 hts (goodL gL_plug_X9_plug) rfl rfl rfl (by decide +kernel) ⟨by decide, by decide⟩) hK hN hP hT hS (ci := 14) (q0 := k_1) rfl hk_1 rfl rfl hl.1 rfl (Nat.le_of_ble_eq_true rfl) dL_plug_7 ⟨Nat.le_of_ble_eq_true rfl, Nat.le_of_ble_eq_true rfl⟩ [] ⟨0, 12, 15, 21⟩ [⟨0, 12, 19, 23⟩] htab (fun _ h => absurd h List.not_mem_nil) (by decide) (by decide) (hts _ (List.mem_append_right _ exW_21)) (va_Nw.use rfl (hT.2.2.1 "java/lang/IndexOutOfBoundsException" (by decide))) (fun qx H locs hS => ?_)
  refine lv_astore (lv' := [(5, .ref qx), (0, .ref (ad 0)), (1, .int d), (2, .int n), (3, .int z), (4, .ref oa)]) hx hb dL_plug_15 hl (by decide) rfl (fun ls hl => ?_)
  refine lv_iconst (v := 1) hx hb dL_plug_17 (by decide) ?_
  refine W.widen (k := 1) (n := 6) (Nat.le_of_ble_eq_true rfl) (Nat.le_of_ble_eq_true rfl) ?_
  exact W.iret hx hb hr (fun t ht hW => ⟨rfl, trivial, hS.F2 ht⟩) (fun z hz => (hS.2.2 z hz).elim) dL_plug_18

set_option maxRecDepth 100000 in
set_option maxHeartbeats 4000000 in
theorem w_plug_1b (l : Launch) (D : va_G) (cy : Nat → ClassId) {ad : Nat → Nat} {rw_ : Nat → Nat → Option Nat} {w : va_W} (F : FrC cy ad rw_ w) (hst : l.stackTraces = false) (oa : Nat) (f : Nat → Int64) (sz : Nat) (d z : Int32) (hd : ¬ d = 0) : MW l D cy ((oa, .inl (cy 2, 1, .inr (.inl f))) :: w) sz yL_plug (wsL_plug ++ exW) 8 1 6 128 [.ref (ad 0), .int 0, .int d, .int z, .ref oa] (some (.int 1)) (fun _ => True) := by
  refine wr_ofW (cc := cL_plug) (maxL := 6) (ret := (some .int)) (hh := [(0, 12, 15, 21), (0, 12, 19, 23)]) (lv := [(0, .ref (ad 0)), (1, .int 0), (2, .int d), (3, .int z), (4, .ref oa)]) (by decide) rfl (Nat.le_of_ble_eq_true rfl) rfl ?_
  intro p e s m below meth c ls hx hb hr hml hown hlocks htab hts hv hl
  have hown : s.vm.findClass RL = some m.cls := hown
  obtain ⟨⟨⟨hsz, hP, hD0⟩, hK, hN⟩, hT⟩ := hv
  subst hsz
  have hS : va_S (fun _ => False) s.heap s.heap [] := va_S.rf
  have F := frc_mono F (fun q hq => List.mem_cons_of_mem (oa, .inl (cy 2, 1, .inr (.inl f))) hq)
  refine lv_aload hx hb dL_plug_0 (lv_at hl 4 rfl) ?_
  refine lv_iconst (v := 0) hx hb dL_plug_2 (by decide) ?_
  refine lv_aload_n hx hb dL_plug_3 rfl (lv_at hl 0 rfl) ?_
  refine lv_iload_n hx hb dL_plug_4 rfl (lv_at hl 1 rfl) ?_
  refine lv_iload_n hx hb dL_plug_5 rfl (lv_at hl 2 rfl) ?_
  refine lv_iload_n hx hb dL_plug_6 rfl (lv_at hl 3 rfl) ?_
  obtain ⟨k_1, hk_1⟩ := frc_hub F
  refine th_catchV (As := [.int 0, .int d, .int z]) (rest := [.int 0, .ref oa]) ⟨hx, hb, hml, hown, hts⟩ (c_plug_x1b l D cy F hst d z hd) (cwV 3 hts (goodL gL_plug_X9_plug) rfl rfl rfl (by decide +kernel) ⟨by decide, by decide⟩) hK hN hP hT hS (ci := 14) (q0 := k_1) rfl hk_1 rfl rfl hl.1 rfl (Nat.le_of_ble_eq_true rfl) dL_plug_7 ⟨Nat.le_of_ble_eq_true rfl, Nat.le_of_ble_eq_true rfl⟩ [] ⟨0, 12, 15, 21⟩ [⟨0, 12, 19, 23⟩] htab (fun _ h => absurd h List.not_mem_nil) (by decide) (by decide) (hts _ (List.mem_append_right _ exW_21)) (va_Nw.use rfl (hT.2.2.1 "java/lang/IndexOutOfBoundsException" (by decide))) (fun qx H locs hS => ?_)
  refine lv_astore (lv' := [(5, .ref qx), (0, .ref (ad 0)), (1, .int 0), (2, .int d), (3, .int z), (4, .ref oa)]) hx hb dL_plug_15 hl (by decide) rfl (fun ls hl => ?_)
  refine lv_iconst (v := 1) hx hb dL_plug_17 (by decide) ?_
  refine W.widen (k := 1) (n := 6) (Nat.le_of_ble_eq_true rfl) (Nat.le_of_ble_eq_true rfl) ?_
  exact W.iret hx hb hr (fun t ht hW => ⟨rfl, trivial, hS.F2 ht⟩) (fun z hz => (hS.2.2 z hz).elim) dL_plug_18

set_option maxRecDepth 100000 in
set_option maxHeartbeats 4000000 in
theorem w_plug_1c (l : Launch) (D : va_G) (cy : Nat → ClassId) {ad : Nat → Nat} {rw_ : Nat → Nat → Option Nat} {w : va_W} (F : FrC cy ad rw_ w) (hst : l.stackTraces = false) (oa : Nat) (f : Nat → Int64) (sz : Nat) (z : Int32) (h : z < 0 ∨ 4 ≤ z) : MW l D cy ((oa, .inl (cy 2, 1, .inr (.inl f))) :: w) sz yL_plug (wsL_plug ++ exW) 7 1 6 107 [.ref (ad 0), .int 0, .int 0, .int z, .ref oa] (some (.int 1)) (fun _ => True) := by
  refine wr_ofW (cc := cL_plug) (maxL := 6) (ret := (some .int)) (hh := [(0, 12, 15, 21), (0, 12, 19, 23)]) (lv := [(0, .ref (ad 0)), (1, .int 0), (2, .int 0), (3, .int z), (4, .ref oa)]) (by decide) rfl (Nat.le_of_ble_eq_true rfl) rfl ?_
  intro p e s m below meth c ls hx hb hr hml hown hlocks htab hts hv hl
  have hown : s.vm.findClass RL = some m.cls := hown
  obtain ⟨⟨⟨hsz, hP, hD0⟩, hK, hN⟩, hT⟩ := hv
  subst hsz
  have hS : va_S (fun _ => False) s.heap s.heap [] := va_S.rf
  have F := frc_mono F (fun q hq => List.mem_cons_of_mem (oa, .inl (cy 2, 1, .inr (.inl f))) hq)
  refine lv_aload hx hb dL_plug_0 (lv_at hl 4 rfl) ?_
  refine lv_iconst (v := 0) hx hb dL_plug_2 (by decide) ?_
  refine lv_aload_n hx hb dL_plug_3 rfl (lv_at hl 0 rfl) ?_
  refine lv_iload_n hx hb dL_plug_4 rfl (lv_at hl 1 rfl) ?_
  refine lv_iload_n hx hb dL_plug_5 rfl (lv_at hl 2 rfl) ?_
  refine lv_iload_n hx hb dL_plug_6 rfl (lv_at hl 3 rfl) ?_
  obtain ⟨k_1, hk_1⟩ := frc_hub F
  refine th_catchV (As := [.int 0, .int 0, .int z]) (rest := [.int 0, .ref oa]) ⟨hx, hb, hml, hown, hts⟩ (c_plug_x1c l D cy F hst z h) (cwV 3 hts (goodL gL_plug_X9_plug) rfl rfl rfl (by decide +kernel) ⟨by decide, by decide⟩) hK hN hP hT hS (ci := 14) (q0 := k_1) rfl hk_1 rfl rfl hl.1 rfl (Nat.le_of_ble_eq_true rfl) dL_plug_7 ⟨Nat.le_of_ble_eq_true rfl, Nat.le_of_ble_eq_true rfl⟩ [] ⟨0, 12, 15, 21⟩ [⟨0, 12, 19, 23⟩] htab (fun _ h => absurd h List.not_mem_nil) (by decide) (by decide) (hts _ (List.mem_append_right _ exW_21)) (va_Nw.use rfl (hT.2.2.1 "java/lang/IndexOutOfBoundsException" (by decide))) (fun qx H locs hS => ?_)
  refine lv_astore (lv' := [(5, .ref qx), (0, .ref (ad 0)), (1, .int 0), (2, .int 0), (3, .int z), (4, .ref oa)]) hx hb dL_plug_15 hl (by decide) rfl (fun ls hl => ?_)
  refine lv_iconst (v := 1) hx hb dL_plug_17 (by decide) ?_
  refine W.widen (k := 1) (n := 6) (Nat.le_of_ble_eq_true rfl) (Nat.le_of_ble_eq_true rfl) ?_
  exact W.iret hx hb hr (fun t ht hW => ⟨rfl, trivial, hS.F2 ht⟩) (fun z hz => (hS.2.2 z hz).elim) dL_plug_18

set_option maxRecDepth 100000 in
set_option maxHeartbeats 4000000 in
theorem w_plug_2 (l : Launch) (D : va_G) (cy : Nat → ClassId) {ad : Nat → Nat} {rw_ : Nat → Nat → Option Nat} {w : va_W} (F : FrC cy ad rw_ w) (hst : l.stackTraces = false) (oa : Nat) (f : Nat → Int64) (sz : Nat) (z : Int32) (h1 : ¬ z < 0) (h2 : z < 4) : MW l D cy ((oa, .inl (cy 2, 1, .inr (.inl f))) :: w) sz yL_plug (wsL_plug ++ exW) 7 1 6 107 [.ref (ad 0), .int 0, .int 0, .int z, .ref oa] (some (.int 2)) (fun _ => True) := by
  refine wr_ofW (cc := cL_plug) (maxL := 6) (ret := (some .int)) (hh := [(0, 12, 15, 21), (0, 12, 19, 23)]) (lv := [(0, .ref (ad 0)), (1, .int 0), (2, .int 0), (3, .int z), (4, .ref oa)]) (by decide) rfl (Nat.le_of_ble_eq_true rfl) rfl ?_
  intro p e s m below meth c ls hx hb hr hml hown hlocks htab hts hv hl
  have hown : s.vm.findClass RL = some m.cls := hown
  obtain ⟨⟨⟨hsz, hP, hD0⟩, hK, hN⟩, hT⟩ := hv
  subst hsz
  have hS : va_S (fun _ => False) s.heap s.heap [] := va_S.rf
  have F := frc_mono F (fun q hq => List.mem_cons_of_mem (oa, .inl (cy 2, 1, .inr (.inl f))) hq)
  refine lv_aload hx hb dL_plug_0 (lv_at hl 4 rfl) ?_
  refine lv_iconst (v := 0) hx hb dL_plug_2 (by decide) ?_
  refine lv_aload_n hx hb dL_plug_3 rfl (lv_at hl 0 rfl) ?_
  refine lv_iload_n hx hb dL_plug_4 rfl (lv_at hl 1 rfl) ?_
  refine lv_iload_n hx hb dL_plug_5 rfl (lv_at hl 2 rfl) ?_
  refine lv_iload_n hx hb dL_plug_6 rfl (lv_at hl 3 rfl) ?_
  obtain ⟨k_1, hk_1⟩ := frc_hub F
  refine th_catchV (As := [.int 0, .int 0, .int z]) (rest := [.int 0, .ref oa]) ⟨hx, hb, hml, hown, hts⟩ (c_plug_x2 l D cy F hst z h1 h2) (cwV 3 hts (goodL gL_plug_X9_plug) rfl rfl rfl (by decide +kernel) ⟨by decide, by decide⟩) hK hN hP hT hS (ci := 14) (q0 := k_1) rfl hk_1 rfl rfl hl.1 rfl (Nat.le_of_ble_eq_true rfl) dL_plug_7 ⟨Nat.le_of_ble_eq_true rfl, Nat.le_of_ble_eq_true rfl⟩ [⟨0, 12, 15, 21⟩] ⟨0, 12, 19, 23⟩ [] htab (by intro z hz; simp only [List.mem_cons, List.not_mem_nil, or_false] at hz; subst hz; exact Or.inr ⟨by decide, "java/lang/IndexOutOfBoundsException", hts _ (List.mem_append_right _ exW_21), hT.2.2.2.2 "java/lang/UnsupportedOperationException" (by decide) "java/lang/IndexOutOfBoundsException" (by decide) (by decide)⟩) (by decide) (by decide) (hts _ (List.mem_append_right _ exW_23)) (va_Nw.use rfl (hT.2.2.1 "java/lang/UnsupportedOperationException" (by decide))) (fun qx H locs hS => ?_)
  refine lv_astore (lv' := [(5, .ref qx), (0, .ref (ad 0)), (1, .int 0), (2, .int 0), (3, .int z), (4, .ref oa)]) hx hb dL_plug_19 hl (by decide) rfl (fun ls hl => ?_)
  refine lv_iconst (v := 2) hx hb dL_plug_21 (by decide) ?_
  refine W.widen (k := 1) (n := 6) (Nat.le_of_ble_eq_true rfl) (Nat.le_of_ble_eq_true rfl) ?_
  exact W.iret hx hb hr (fun t ht hW => ⟨rfl, trivial, hS.F2 ht⟩) (fun z hz => (hS.2.2 z hz).elim) dL_plug_22

set_option maxRecDepth 100000 in
set_option maxHeartbeats 4000000 in
theorem w_unplug_1 (l : Launch) (D : va_G) (cy : Nat → ClassId) {ad : Nat → Nat} {rw_ : Nat → Nat → Option Nat} {w : va_W} (F : FrC cy ad rw_ w) (hst : l.stackTraces = false) (oa : Nat) (f : Nat → Int64) (sz : Nat) (d : Int32) : MW l D cy ((oa, .inl (cy 2, 1, .inr (.inl f))) :: w) sz yL_unplug (wsL_unplug ++ exW) 9 1 6 146 [.ref (ad 0), .int d, .ref oa] (some (.int 1)) (fun _ => True) := by
  refine wr_ofW (cc := cL_unplug) (maxL := 4) (ret := (some .int)) (hh := [(0, 9, 12, 21), (0, 9, 15, 23)]) (lv := [(0, .ref (ad 0)), (1, .int d), (2, .ref oa)]) (by decide) rfl (Nat.le_of_ble_eq_true rfl) rfl ?_
  intro p e s m below meth c ls hx hb hr hml hown hlocks htab hts hv hl
  have hown : s.vm.findClass RL = some m.cls := hown
  obtain ⟨⟨⟨hsz, hP, hD0⟩, hK, hN⟩, hT⟩ := hv
  subst hsz
  have hS : va_S (fun _ => False) s.heap s.heap [] := va_S.rf
  have F := frc_mono F (fun q hq => List.mem_cons_of_mem (oa, .inl (cy 2, 1, .inr (.inl f))) hq)
  refine lv_aload_n hx hb dL_unplug_0 rfl (lv_at hl 2 rfl) ?_
  refine lv_iconst (v := 0) hx hb dL_unplug_1 (by decide) ?_
  refine lv_aload_n hx hb dL_unplug_2 rfl (lv_at hl 0 rfl) ?_
  refine lv_iload_n hx hb dL_unplug_3 rfl (lv_at hl 1 rfl) ?_
  obtain ⟨k_1, hk_1⟩ := frc_hub F
  refine th_catchV (As := [.int d]) (rest := [.int 0, .ref oa]) ⟨hx, hb, hml, hown, hts⟩ (c_unplug_x1 l D cy F hst d) (cwV 1 hts (goodL gL_unplug_X9_unplug) rfl rfl rfl (by decide +kernel) ⟨by decide, by decide⟩) hK hN hP hT hS (ci := 14) (q0 := k_1) rfl hk_1 rfl rfl hl.1 rfl (Nat.le_of_ble_eq_true rfl) dL_unplug_4 ⟨Nat.le_of_ble_eq_true rfl, Nat.le_of_ble_eq_true rfl⟩ [] ⟨0, 9, 12, 21⟩ [⟨0, 9, 15, 23⟩] htab (fun _ h => absurd h List.not_mem_nil) (by decide) (by decide) (hts _ (List.mem_append_right _ exW_21)) (va_Nw.use rfl (hT.2.2.1 "java/lang/IndexOutOfBoundsException" (by decide))) (fun qx H locs hS => ?_)
  refine lv_astore_n (lv' := [(3, .ref qx), (0, .ref (ad 0)), (1, .int d), (2, .ref oa)]) hx hb dL_unplug_12 rfl hl (by decide) rfl (fun ls hl => ?_)
  refine lv_iconst (v := 1) hx hb dL_unplug_13 (by decide) ?_
  refine W.widen (k := 1) (n := 6) (Nat.le_of_ble_eq_true rfl) (Nat.le_of_ble_eq_true rfl) ?_
  exact W.iret hx hb hr (fun t ht hW => ⟨rfl, trivial, hS.F2 ht⟩) (fun z hz => (hS.2.2 z hz).elim) dL_unplug_14

set_option maxRecDepth 100000 in
set_option maxHeartbeats 4000000 in
theorem w_sleep_1 (l : Launch) (D : va_G) (cy : Nat → ClassId) {ad : Nat → Nat} {rw_ : Nat → Nat → Option Nat} {w : va_W} (F : FrC cy ad rw_ w) (hst : l.stackTraces = false) (oa : Nat) (f : Nat → Int64) (sz : Nat) (d : Int32) : MW l D cy ((oa, .inl (cy 2, 1, .inr (.inl f))) :: w) sz yL_sleep (wsL_sleep ++ exW) 9 1 6 149 [.ref (ad 0), .int d, .ref oa] (some (.int 1)) (fun _ => True) := by
  refine wr_ofW (cc := cL_sleep) (maxL := 4) (ret := (some .int)) (hh := [(0, 9, 12, 21), (0, 9, 15, 23)]) (lv := [(0, .ref (ad 0)), (1, .int d), (2, .ref oa)]) (by decide) rfl (Nat.le_of_ble_eq_true rfl) rfl ?_
  intro p e s m below meth c ls hx hb hr hml hown hlocks htab hts hv hl
  have hown : s.vm.findClass RL = some m.cls := hown
  obtain ⟨⟨⟨hsz, hP, hD0⟩, hK, hN⟩, hT⟩ := hv
  subst hsz
  have hS : va_S (fun _ => False) s.heap s.heap [] := va_S.rf
  have F := frc_mono F (fun q hq => List.mem_cons_of_mem (oa, .inl (cy 2, 1, .inr (.inl f))) hq)
  refine lv_aload_n hx hb dL_sleep_0 rfl (lv_at hl 2 rfl) ?_
  refine lv_iconst (v := 0) hx hb dL_sleep_1 (by decide) ?_
  refine lv_aload_n hx hb dL_sleep_2 rfl (lv_at hl 0 rfl) ?_
  refine lv_iload_n hx hb dL_sleep_3 rfl (lv_at hl 1 rfl) ?_
  obtain ⟨k_1, hk_1⟩ := frc_hub F
  refine th_catchV (As := [.int d]) (rest := [.int 0, .ref oa]) ⟨hx, hb, hml, hown, hts⟩ (c_sleep_x1 l D cy F hst d) (cwV 1 hts (goodL gL_sleep_X9_sleep) rfl rfl rfl (by decide +kernel) ⟨by decide, by decide⟩) hK hN hP hT hS (ci := 14) (q0 := k_1) rfl hk_1 rfl rfl hl.1 rfl (Nat.le_of_ble_eq_true rfl) dL_sleep_4 ⟨Nat.le_of_ble_eq_true rfl, Nat.le_of_ble_eq_true rfl⟩ [] ⟨0, 9, 12, 21⟩ [⟨0, 9, 15, 23⟩] htab (fun _ h => absurd h List.not_mem_nil) (by decide) (by decide) (hts _ (List.mem_append_right _ exW_21)) (va_Nw.use rfl (hT.2.2.1 "java/lang/IndexOutOfBoundsException" (by decide))) (fun qx H locs hS => ?_)
  refine lv_astore_n (lv' := [(3, .ref qx), (0, .ref (ad 0)), (1, .int d), (2, .ref oa)]) hx hb dL_sleep_12 rfl hl (by decide) rfl (fun ls hl => ?_)
  refine lv_iconst (v := 1) hx hb dL_sleep_13 (by decide) ?_
  refine W.widen (k := 1) (n := 6) (Nat.le_of_ble_eq_true rfl) (Nat.le_of_ble_eq_true rfl) ?_
  exact W.iret hx hb hr (fun t ht hW => ⟨rfl, trivial, hS.F2 ht⟩) (fun z hz => (hS.2.2 z hz).elim) dL_sleep_14

set_option maxRecDepth 100000 in
set_option maxHeartbeats 4000000 in
theorem w_stateOf_0 (l : Launch) (D : va_G) (cy : Nat → ClassId) {ad : Nat → Nat} {rw_ : Nat → Nat → Option Nat} {w : va_W} (F : FrC cy ad rw_ w) (oa : Nat) (f : Nat → Int64) (sz : Nat) : MW l D cy ((oa, .inl (cy 2, 1, .inr (.inl f))) :: w) sz yL_stateOf (wsL_stateOf ++ exW) 2 0 0 42 [.ref (ad 0), .int 0, .ref oa] (some (.int 0)) (fun H => va_P D vwCl [(oa, .inl (cy 2, 1, .inr (.inl (vp_updL f 0 (99)))))] H) := by
  refine wr_ofW (cc := cL_stateOf) (maxL := 4) (ret := (some .int)) (hh := [(0, 9, 12, 21)]) (lv := [(0, .ref (ad 0)), (1, .int 0), (2, .ref oa)]) (by decide) rfl (Nat.le_of_ble_eq_true rfl) rfl ?_
  intro p e s m below meth c ls hx hb hr hml hown hlocks htab hts hv hl
  have hown : s.vm.findClass RL = some m.cls := hown
  obtain ⟨⟨⟨hsz, hP, hD0⟩, hK, hN⟩, hT⟩ := hv
  subst hsz
  have hD := hD0.self (sz := s.heap.size)
  generalize hAe : va_A ((oa, .inl (cy 2, 1, .inr (.inl f))) :: w) s.heap.size = A at hD ⊢
  have hA : ∀ q : Nat, s.heap.size ≤ q → A q := fun q h => by rw [← hAe]; exact Or.inr h
  have hS : va_S A s.heap s.heap [] := va_S.rf
  have F := frc_mono F (fun q hq => List.mem_cons_of_mem (oa, .inl (cy 2, 1, .inr (.inl f))) hq)
  refine lv_aload_n hx hb dL_stateOf_0 rfl (lv_at hl 2 rfl) ?_
  refine lv_iconst (v := 0) hx hb dL_stateOf_1 (by decide) ?_
  refine lv_aload_n hx hb dL_stateOf_2 rfl (lv_at hl 0 rfl) ?_
  refine lv_iload_n hx hb dL_stateOf_3 rfl (lv_at hl 1 rfl) ?_
  obtain ⟨k_1, hk_1⟩ := frc_hub F
  refine ro_callV (As := [.int 0]) (rest := [.int 0, .ref oa]) ⟨hx, hb, hml, hown, hts⟩ (c_stateOf_ok l D cy F) (cwV 1 hts (goodL gL_stateOf_X9_stateOf) rfl rfl rfl (by decide +kernel) ⟨by decide, by decide⟩) hK hN hP hS (ci := 14) rfl hk_1 rfl rfl hl.1 rfl (Nat.le_of_ble_eq_true rfl) dL_stateOf_4 ⟨Nat.le_of_ble_eq_true rfl, Nat.le_of_ble_eq_true rfl⟩ (fun H locs hP hS => ?_)
  refine lv_i2l (v := 99) hx hb dL_stateOf_7 (by decide) ?_
  refine va_last hx hb hK hP hD hS 0 2 rfl rfl (by unfold vp_in; decide) dL_stateOf_8 (fun H locs hP hD hS => ?_)
  rw [my_upd0] at hP
  have hB := my_one (ko := 0) hP rfl
  refine lv_goto (tgt := 15) hx hb dL_stateOf_9 (by decide) ?_
  refine lv_iconst (v := 0) hx hb dL_stateOf_15 (by decide) ?_
  exact W.iret hx hb hr (fun t ht hW => ⟨rfl, by rw [ht]; exact hB, hS.F ht⟩) hS.2.2 dL_stateOf_16

set_option maxRecDepth 100000 in
set_option maxHeartbeats 4000000 in
theorem w_stateOf_1 (l : Launch) (D : va_G) (cy : Nat → ClassId) {ad : Nat → Nat} {rw_ : Nat → Nat → Option Nat} {w : va_W} (F : FrC cy ad rw_ w) (hst : l.stackTraces = false) (oa : Nat) (f : Nat → Int64) (sz : Nat) (d : Int32) (hd : ¬ d = 0) : MW l D cy ((oa, .inl (cy 2, 1, .inr (.inl f))) :: w) sz yL_stateOf (wsL_stateOf ++ exW) 8 1 6 124 [.ref (ad 0), .int d, .ref oa] (some (.int 1)) (fun _ => True) := by
  refine wr_ofW (cc := cL_stateOf) (maxL := 4) (ret := (some .int)) (hh := [(0, 9, 12, 21)]) (lv := [(0, .ref (ad 0)), (1, .int d), (2, .ref oa)]) (by decide) rfl (Nat.le_of_ble_eq_true rfl) rfl ?_
  intro p e s m below meth c ls hx hb hr hml hown hlocks htab hts hv hl
  have hown : s.vm.findClass RL = some m.cls := hown
  obtain ⟨⟨⟨hsz, hP, hD0⟩, hK, hN⟩, hT⟩ := hv
  subst hsz
  have hS : va_S (fun _ => False) s.heap s.heap [] := va_S.rf
  have F := frc_mono F (fun q hq => List.mem_cons_of_mem (oa, .inl (cy 2, 1, .inr (.inl f))) hq)
  refine lv_aload_n hx hb dL_stateOf_0 rfl (lv_at hl 2 rfl) ?_
  refine lv_iconst (v := 0) hx hb dL_stateOf_1 (by decide) ?_
  refine lv_aload_n hx hb dL_stateOf_2 rfl (lv_at hl 0 rfl) ?_
  refine lv_iload_n hx hb dL_stateOf_3 rfl (lv_at hl 1 rfl) ?_
  obtain ⟨k_1, hk_1⟩ := frc_hub F
  refine th_catchV (As := [.int d]) (rest := [.int 0, .ref oa]) ⟨hx, hb, hml, hown, hts⟩ (c_stateOf_x1 l D cy F hst d hd) (cwV 1 hts (goodL gL_stateOf_X9_stateOf) rfl rfl rfl (by decide +kernel) ⟨by decide, by decide⟩) hK hN hP hT hS (ci := 14) (q0 := k_1) rfl hk_1 rfl rfl hl.1 rfl (Nat.le_of_ble_eq_true rfl) dL_stateOf_4 ⟨Nat.le_of_ble_eq_true rfl, Nat.le_of_ble_eq_true rfl⟩ [] ⟨0, 9, 12, 21⟩ [] htab (fun _ h => absurd h List.not_mem_nil) (by decide) (by decide) (hts _ (List.mem_append_right _ exW_21)) (va_Nw.use rfl (hT.2.2.1 "java/lang/IndexOutOfBoundsException" (by decide))) (fun qx H locs hS => ?_)
  refine lv_astore_n (lv' := [(3, .ref qx), (0, .ref (ad 0)), (1, .int d), (2, .ref oa)]) hx hb dL_stateOf_12 rfl hl (by decide) rfl (fun ls hl => ?_)
  refine lv_iconst (v := 1) hx hb dL_stateOf_13 (by decide) ?_
  refine W.widen (k := 1) (n := 6) (Nat.le_of_ble_eq_true rfl) (Nat.le_of_ble_eq_true rfl) ?_
  exact W.iret hx hb hr (fun t ht hW => ⟨rfl, trivial, hS.F2 ht⟩) (fun z hz => (hS.2.2 z hz).elim) dL_stateOf_14

set_option maxRecDepth 100000 in
set_option maxHeartbeats 4000000 in
theorem w_hubOf_0 (l : Launch) (D : va_G) (cy : Nat → ClassId) {ad : Nat → Nat} {rw_ : Nat → Nat → Option Nat} {w : va_W} (F : FrC cy ad rw_ w) (oa : Nat) (f : Nat → Int64) (sz : Nat) : MW l D cy ((oa, .inl (cy 2, 1, .inr (.inl f))) :: w) sz yL_hubOf (wsL_hubOf ++ exW) 2 0 0 43 [.ref (ad 0), .int 0, .ref oa] (some (.int 0)) (fun H => va_P D vwCl [(oa, .inl (cy 2, 1, .inr (.inl (vp_updL f 0 ((-1))))))] H) := by
  refine wr_ofW (cc := cL_hubOf) (maxL := 4) (ret := (some .int)) (hh := [(0, 9, 12, 21)]) (lv := [(0, .ref (ad 0)), (1, .int 0), (2, .ref oa)]) (by decide) rfl (Nat.le_of_ble_eq_true rfl) rfl ?_
  intro p e s m below meth c ls hx hb hr hml hown hlocks htab hts hv hl
  have hown : s.vm.findClass RL = some m.cls := hown
  obtain ⟨⟨⟨hsz, hP, hD0⟩, hK, hN⟩, hT⟩ := hv
  subst hsz
  have hD := hD0.self (sz := s.heap.size)
  generalize hAe : va_A ((oa, .inl (cy 2, 1, .inr (.inl f))) :: w) s.heap.size = A at hD ⊢
  have hA : ∀ q : Nat, s.heap.size ≤ q → A q := fun q h => by rw [← hAe]; exact Or.inr h
  have hS : va_S A s.heap s.heap [] := va_S.rf
  have F := frc_mono F (fun q hq => List.mem_cons_of_mem (oa, .inl (cy 2, 1, .inr (.inl f))) hq)
  refine lv_aload_n hx hb dL_hubOf_0 rfl (lv_at hl 2 rfl) ?_
  refine lv_iconst (v := 0) hx hb dL_hubOf_1 (by decide) ?_
  refine lv_aload_n hx hb dL_hubOf_2 rfl (lv_at hl 0 rfl) ?_
  refine lv_iload_n hx hb dL_hubOf_3 rfl (lv_at hl 1 rfl) ?_
  obtain ⟨k_1, hk_1⟩ := frc_hub F
  refine ro_callV (As := [.int 0]) (rest := [.int 0, .ref oa]) ⟨hx, hb, hml, hown, hts⟩ (c_hubOf_ok l D cy F) (cwV 1 hts (goodL gL_hubOf_X9_hubOf) rfl rfl rfl (by decide +kernel) ⟨by decide, by decide⟩) hK hN hP hS (ci := 14) rfl hk_1 rfl rfl hl.1 rfl (Nat.le_of_ble_eq_true rfl) dL_hubOf_4 ⟨Nat.le_of_ble_eq_true rfl, Nat.le_of_ble_eq_true rfl⟩ (fun H locs hP hS => ?_)
  refine lv_i2l (v := (-1)) hx hb dL_hubOf_7 (by decide) ?_
  refine va_last hx hb hK hP hD hS 0 2 rfl rfl (by unfold vp_in; decide) dL_hubOf_8 (fun H locs hP hD hS => ?_)
  rw [my_upd0] at hP
  have hB := my_one (ko := 0) hP rfl
  refine lv_goto (tgt := 15) hx hb dL_hubOf_9 (by decide) ?_
  refine lv_iconst (v := 0) hx hb dL_hubOf_15 (by decide) ?_
  exact W.iret hx hb hr (fun t ht hW => ⟨rfl, by rw [ht]; exact hB, hS.F ht⟩) hS.2.2 dL_hubOf_16

set_option maxRecDepth 100000 in
set_option maxHeartbeats 4000000 in
theorem w_hubOf_1 (l : Launch) (D : va_G) (cy : Nat → ClassId) {ad : Nat → Nat} {rw_ : Nat → Nat → Option Nat} {w : va_W} (F : FrC cy ad rw_ w) (hst : l.stackTraces = false) (oa : Nat) (f : Nat → Int64) (sz : Nat) (d : Int32) (hd : ¬ d = 0) : MW l D cy ((oa, .inl (cy 2, 1, .inr (.inl f))) :: w) sz yL_hubOf (wsL_hubOf ++ exW) 8 1 6 125 [.ref (ad 0), .int d, .ref oa] (some (.int 1)) (fun _ => True) := by
  refine wr_ofW (cc := cL_hubOf) (maxL := 4) (ret := (some .int)) (hh := [(0, 9, 12, 21)]) (lv := [(0, .ref (ad 0)), (1, .int d), (2, .ref oa)]) (by decide) rfl (Nat.le_of_ble_eq_true rfl) rfl ?_
  intro p e s m below meth c ls hx hb hr hml hown hlocks htab hts hv hl
  have hown : s.vm.findClass RL = some m.cls := hown
  obtain ⟨⟨⟨hsz, hP, hD0⟩, hK, hN⟩, hT⟩ := hv
  subst hsz
  have hS : va_S (fun _ => False) s.heap s.heap [] := va_S.rf
  have F := frc_mono F (fun q hq => List.mem_cons_of_mem (oa, .inl (cy 2, 1, .inr (.inl f))) hq)
  refine lv_aload_n hx hb dL_hubOf_0 rfl (lv_at hl 2 rfl) ?_
  refine lv_iconst (v := 0) hx hb dL_hubOf_1 (by decide) ?_
  refine lv_aload_n hx hb dL_hubOf_2 rfl (lv_at hl 0 rfl) ?_
  refine lv_iload_n hx hb dL_hubOf_3 rfl (lv_at hl 1 rfl) ?_
  obtain ⟨k_1, hk_1⟩ := frc_hub F
  refine th_catchV (As := [.int d]) (rest := [.int 0, .ref oa]) ⟨hx, hb, hml, hown, hts⟩ (c_hubOf_x1 l D cy F hst d hd) (cwV 1 hts (goodL gL_hubOf_X9_hubOf) rfl rfl rfl (by decide +kernel) ⟨by decide, by decide⟩) hK hN hP hT hS (ci := 14) (q0 := k_1) rfl hk_1 rfl rfl hl.1 rfl (Nat.le_of_ble_eq_true rfl) dL_hubOf_4 ⟨Nat.le_of_ble_eq_true rfl, Nat.le_of_ble_eq_true rfl⟩ [] ⟨0, 9, 12, 21⟩ [] htab (fun _ h => absurd h List.not_mem_nil) (by decide) (by decide) (hts _ (List.mem_append_right _ exW_21)) (va_Nw.use rfl (hT.2.2.1 "java/lang/IndexOutOfBoundsException" (by decide))) (fun qx H locs hS => ?_)
  refine lv_astore_n (lv' := [(3, .ref qx), (0, .ref (ad 0)), (1, .int d), (2, .ref oa)]) hx hb dL_hubOf_12 rfl hl (by decide) rfl (fun ls hl => ?_)
  refine lv_iconst (v := 1) hx hb dL_hubOf_13 (by decide) ?_
  refine W.widen (k := 1) (n := 6) (Nat.le_of_ble_eq_true rfl) (Nat.le_of_ble_eq_true rfl) ?_
  exact W.iret hx hb hr (fun t ht hW => ⟨rfl, trivial, hS.F2 ht⟩) (fun z hz => (hS.2.2 z hz).elim) dL_hubOf_14

set_option maxRecDepth 100000 in
set_option maxHeartbeats 4000000 in
theorem w_depthOf_0 (l : Launch) (D : va_G) (cy : Nat → ClassId) {ad : Nat → Nat} {rw_ : Nat → Nat → Option Nat} {w : va_W} (F : FrC cy ad rw_ w) (oa : Nat) (f : Nat → Int64) (sz : Nat) : MW l D cy ((oa, .inl (cy 2, 1, .inr (.inl f))) :: w) sz yL_depthOf (wsL_depthOf ++ exW) 2 0 0 42 [.ref (ad 0), .int 0, .ref oa] (some (.int 0)) (fun H => va_P D vwCl [(oa, .inl (cy 2, 1, .inr (.inl (vp_updL f 0 (0)))))] H) := by
  refine wr_ofW (cc := cL_depthOf) (maxL := 4) (ret := (some .int)) (hh := [(0, 9, 12, 21)]) (lv := [(0, .ref (ad 0)), (1, .int 0), (2, .ref oa)]) (by decide) rfl (Nat.le_of_ble_eq_true rfl) rfl ?_
  intro p e s m below meth c ls hx hb hr hml hown hlocks htab hts hv hl
  have hown : s.vm.findClass RL = some m.cls := hown
  obtain ⟨⟨⟨hsz, hP, hD0⟩, hK, hN⟩, hT⟩ := hv
  subst hsz
  have hD := hD0.self (sz := s.heap.size)
  generalize hAe : va_A ((oa, .inl (cy 2, 1, .inr (.inl f))) :: w) s.heap.size = A at hD ⊢
  have hA : ∀ q : Nat, s.heap.size ≤ q → A q := fun q h => by rw [← hAe]; exact Or.inr h
  have hS : va_S A s.heap s.heap [] := va_S.rf
  have F := frc_mono F (fun q hq => List.mem_cons_of_mem (oa, .inl (cy 2, 1, .inr (.inl f))) hq)
  refine lv_aload_n hx hb dL_depthOf_0 rfl (lv_at hl 2 rfl) ?_
  refine lv_iconst (v := 0) hx hb dL_depthOf_1 (by decide) ?_
  refine lv_aload_n hx hb dL_depthOf_2 rfl (lv_at hl 0 rfl) ?_
  refine lv_iload_n hx hb dL_depthOf_3 rfl (lv_at hl 1 rfl) ?_
  obtain ⟨k_1, hk_1⟩ := frc_hub F
  refine ro_callV (As := [.int 0]) (rest := [.int 0, .ref oa]) ⟨hx, hb, hml, hown, hts⟩ (c_depthOf_ok l D cy F) (cwV 1 hts (goodL gL_depthOf_X9_depthOf) rfl rfl rfl (by decide +kernel) ⟨by decide, by decide⟩) hK hN hP hS (ci := 14) rfl hk_1 rfl rfl hl.1 rfl (Nat.le_of_ble_eq_true rfl) dL_depthOf_4 ⟨Nat.le_of_ble_eq_true rfl, Nat.le_of_ble_eq_true rfl⟩ (fun H locs hP hS => ?_)
  refine lv_i2l (v := 0) hx hb dL_depthOf_7 (by decide) ?_
  refine va_last hx hb hK hP hD hS 0 2 rfl rfl (by unfold vp_in; decide) dL_depthOf_8 (fun H locs hP hD hS => ?_)
  rw [my_upd0] at hP
  have hB := my_one (ko := 0) hP rfl
  refine lv_goto (tgt := 15) hx hb dL_depthOf_9 (by decide) ?_
  refine lv_iconst (v := 0) hx hb dL_depthOf_15 (by decide) ?_
  exact W.iret hx hb hr (fun t ht hW => ⟨rfl, by rw [ht]; exact hB, hS.F ht⟩) hS.2.2 dL_depthOf_16

set_option maxRecDepth 100000 in
set_option maxHeartbeats 4000000 in
theorem w_depthOf_1 (l : Launch) (D : va_G) (cy : Nat → ClassId) {ad : Nat → Nat} {rw_ : Nat → Nat → Option Nat} {w : va_W} (F : FrC cy ad rw_ w) (hst : l.stackTraces = false) (oa : Nat) (f : Nat → Int64) (sz : Nat) (d : Int32) (hd : ¬ d = 0) : MW l D cy ((oa, .inl (cy 2, 1, .inr (.inl f))) :: w) sz yL_depthOf (wsL_depthOf ++ exW) 8 1 6 124 [.ref (ad 0), .int d, .ref oa] (some (.int 1)) (fun _ => True) := by
  refine wr_ofW (cc := cL_depthOf) (maxL := 4) (ret := (some .int)) (hh := [(0, 9, 12, 21)]) (lv := [(0, .ref (ad 0)), (1, .int d), (2, .ref oa)]) (by decide) rfl (Nat.le_of_ble_eq_true rfl) rfl ?_
  intro p e s m below meth c ls hx hb hr hml hown hlocks htab hts hv hl
  have hown : s.vm.findClass RL = some m.cls := hown
  obtain ⟨⟨⟨hsz, hP, hD0⟩, hK, hN⟩, hT⟩ := hv
  subst hsz
  have hS : va_S (fun _ => False) s.heap s.heap [] := va_S.rf
  have F := frc_mono F (fun q hq => List.mem_cons_of_mem (oa, .inl (cy 2, 1, .inr (.inl f))) hq)
  refine lv_aload_n hx hb dL_depthOf_0 rfl (lv_at hl 2 rfl) ?_
  refine lv_iconst (v := 0) hx hb dL_depthOf_1 (by decide) ?_
  refine lv_aload_n hx hb dL_depthOf_2 rfl (lv_at hl 0 rfl) ?_
  refine lv_iload_n hx hb dL_depthOf_3 rfl (lv_at hl 1 rfl) ?_
  obtain ⟨k_1, hk_1⟩ := frc_hub F
  refine th_catchV (As := [.int d]) (rest := [.int 0, .ref oa]) ⟨hx, hb, hml, hown, hts⟩ (c_depthOf_x1 l D cy F hst d hd) (cwV 1 hts (goodL gL_depthOf_X9_depthOf) rfl rfl rfl (by decide +kernel) ⟨by decide, by decide⟩) hK hN hP hT hS (ci := 14) (q0 := k_1) rfl hk_1 rfl rfl hl.1 rfl (Nat.le_of_ble_eq_true rfl) dL_depthOf_4 ⟨Nat.le_of_ble_eq_true rfl, Nat.le_of_ble_eq_true rfl⟩ [] ⟨0, 9, 12, 21⟩ [] htab (fun _ h => absurd h List.not_mem_nil) (by decide) (by decide) (hts _ (List.mem_append_right _ exW_21)) (va_Nw.use rfl (hT.2.2.1 "java/lang/IndexOutOfBoundsException" (by decide))) (fun qx H locs hS => ?_)
  refine lv_astore_n (lv' := [(3, .ref qx), (0, .ref (ad 0)), (1, .int d), (2, .ref oa)]) hx hb dL_depthOf_12 rfl hl (by decide) rfl (fun ls hl => ?_)
  refine lv_iconst (v := 1) hx hb dL_depthOf_13 (by decide) ?_
  refine W.widen (k := 1) (n := 6) (Nat.le_of_ble_eq_true rfl) (Nat.le_of_ble_eq_true rfl) ?_
  exact W.iret hx hb hr (fun t ht hW => ⟨rfl, trivial, hS.F2 ht⟩) (fun z hz => (hS.2.2 z hz).elim) dL_depthOf_14

set_option maxRecDepth 100000 in
set_option maxHeartbeats 4000000 in
theorem w_speedOf_0 (l : Launch) (D : va_G) (cy : Nat → ClassId) {ad : Nat → Nat} {rw_ : Nat → Nat → Option Nat} {w : va_W} (F : FrC cy ad rw_ w) (oa : Nat) (f : Nat → Int64) (sz : Nat) : MW l D cy ((oa, .inl (cy 2, 1, .inr (.inl f))) :: w) sz yL_speedOf (wsL_speedOf ++ exW) 2 0 0 42 [.ref (ad 0), .int 0, .ref oa] (some (.int 0)) (fun H => va_P D vwCl [(oa, .inl (cy 2, 1, .inr (.inl (vp_updL f 0 (104)))))] H) := by
  refine wr_ofW (cc := cL_speedOf) (maxL := 4) (ret := (some .int)) (hh := [(0, 9, 12, 21)]) (lv := [(0, .ref (ad 0)), (1, .int 0), (2, .ref oa)]) (by decide) rfl (Nat.le_of_ble_eq_true rfl) rfl ?_
  intro p e s m below meth c ls hx hb hr hml hown hlocks htab hts hv hl
  have hown : s.vm.findClass RL = some m.cls := hown
  obtain ⟨⟨⟨hsz, hP, hD0⟩, hK, hN⟩, hT⟩ := hv
  subst hsz
  have hD := hD0.self (sz := s.heap.size)
  generalize hAe : va_A ((oa, .inl (cy 2, 1, .inr (.inl f))) :: w) s.heap.size = A at hD ⊢
  have hA : ∀ q : Nat, s.heap.size ≤ q → A q := fun q h => by rw [← hAe]; exact Or.inr h
  have hS : va_S A s.heap s.heap [] := va_S.rf
  have F := frc_mono F (fun q hq => List.mem_cons_of_mem (oa, .inl (cy 2, 1, .inr (.inl f))) hq)
  refine lv_aload_n hx hb dL_speedOf_0 rfl (lv_at hl 2 rfl) ?_
  refine lv_iconst (v := 0) hx hb dL_speedOf_1 (by decide) ?_
  refine lv_aload_n hx hb dL_speedOf_2 rfl (lv_at hl 0 rfl) ?_
  refine lv_iload_n hx hb dL_speedOf_3 rfl (lv_at hl 1 rfl) ?_
  obtain ⟨k_1, hk_1⟩ := frc_hub F
  refine ro_callV (As := [.int 0]) (rest := [.int 0, .ref oa]) ⟨hx, hb, hml, hown, hts⟩ (c_speedOf_ok l D cy F) (cwV 1 hts (goodL gL_speedOf_X9_speedOf) rfl rfl rfl (by decide +kernel) ⟨by decide, by decide⟩) hK hN hP hS (ci := 14) rfl hk_1 rfl rfl hl.1 rfl (Nat.le_of_ble_eq_true rfl) dL_speedOf_4 ⟨Nat.le_of_ble_eq_true rfl, Nat.le_of_ble_eq_true rfl⟩ (fun H locs hP hS => ?_)
  refine lv_i2l (v := 104) hx hb dL_speedOf_7 (by decide) ?_
  refine va_last hx hb hK hP hD hS 0 2 rfl rfl (by unfold vp_in; decide) dL_speedOf_8 (fun H locs hP hD hS => ?_)
  rw [my_upd0] at hP
  have hB := my_one (ko := 0) hP rfl
  refine lv_goto (tgt := 15) hx hb dL_speedOf_9 (by decide) ?_
  refine lv_iconst (v := 0) hx hb dL_speedOf_15 (by decide) ?_
  exact W.iret hx hb hr (fun t ht hW => ⟨rfl, by rw [ht]; exact hB, hS.F ht⟩) hS.2.2 dL_speedOf_16

set_option maxRecDepth 100000 in
set_option maxHeartbeats 4000000 in
theorem w_speedOf_1 (l : Launch) (D : va_G) (cy : Nat → ClassId) {ad : Nat → Nat} {rw_ : Nat → Nat → Option Nat} {w : va_W} (F : FrC cy ad rw_ w) (hst : l.stackTraces = false) (oa : Nat) (f : Nat → Int64) (sz : Nat) (d : Int32) (hd : ¬ d = 0) : MW l D cy ((oa, .inl (cy 2, 1, .inr (.inl f))) :: w) sz yL_speedOf (wsL_speedOf ++ exW) 8 1 6 124 [.ref (ad 0), .int d, .ref oa] (some (.int 1)) (fun _ => True) := by
  refine wr_ofW (cc := cL_speedOf) (maxL := 4) (ret := (some .int)) (hh := [(0, 9, 12, 21)]) (lv := [(0, .ref (ad 0)), (1, .int d), (2, .ref oa)]) (by decide) rfl (Nat.le_of_ble_eq_true rfl) rfl ?_
  intro p e s m below meth c ls hx hb hr hml hown hlocks htab hts hv hl
  have hown : s.vm.findClass RL = some m.cls := hown
  obtain ⟨⟨⟨hsz, hP, hD0⟩, hK, hN⟩, hT⟩ := hv
  subst hsz
  have hS : va_S (fun _ => False) s.heap s.heap [] := va_S.rf
  have F := frc_mono F (fun q hq => List.mem_cons_of_mem (oa, .inl (cy 2, 1, .inr (.inl f))) hq)
  refine lv_aload_n hx hb dL_speedOf_0 rfl (lv_at hl 2 rfl) ?_
  refine lv_iconst (v := 0) hx hb dL_speedOf_1 (by decide) ?_
  refine lv_aload_n hx hb dL_speedOf_2 rfl (lv_at hl 0 rfl) ?_
  refine lv_iload_n hx hb dL_speedOf_3 rfl (lv_at hl 1 rfl) ?_
  obtain ⟨k_1, hk_1⟩ := frc_hub F
  refine th_catchV (As := [.int d]) (rest := [.int 0, .ref oa]) ⟨hx, hb, hml, hown, hts⟩ (c_speedOf_x1 l D cy F hst d hd) (cwV 1 hts (goodL gL_speedOf_X9_speedOf) rfl rfl rfl (by decide +kernel) ⟨by decide, by decide⟩) hK hN hP hT hS (ci := 14) (q0 := k_1) rfl hk_1 rfl rfl hl.1 rfl (Nat.le_of_ble_eq_true rfl) dL_speedOf_4 ⟨Nat.le_of_ble_eq_true rfl, Nat.le_of_ble_eq_true rfl⟩ [] ⟨0, 9, 12, 21⟩ [] htab (fun _ h => absurd h List.not_mem_nil) (by decide) (by decide) (hts _ (List.mem_append_right _ exW_21)) (va_Nw.use rfl (hT.2.2.1 "java/lang/IndexOutOfBoundsException" (by decide))) (fun qx H locs hS => ?_)
  refine lv_astore_n (lv' := [(3, .ref qx), (0, .ref (ad 0)), (1, .int d), (2, .ref oa)]) hx hb dL_speedOf_12 rfl hl (by decide) rfl (fun ls hl => ?_)
  refine lv_iconst (v := 1) hx hb dL_speedOf_13 (by decide) ?_
  refine W.widen (k := 1) (n := 6) (Nat.le_of_ble_eq_true rfl) (Nat.le_of_ble_eq_true rfl) ?_
  exact W.iret hx hb hr (fun t ht hW => ⟨rfl, trivial, hS.F2 ht⟩) (fun z hz => (hS.2.2 z hz).elim) dL_speedOf_14

set_option maxRecDepth 100000 in
set_option maxHeartbeats 4000000 in
theorem w_addressOf_0 (l : Launch) (D : va_G) (cy : Nat → ClassId) {ad : Nat → Nat} {rw_ : Nat → Nat → Option Nat} {w : va_W} (F : FrC cy ad rw_ w) (oa : Nat) (f : Nat → Int64) (sz : Nat) : MW l D cy ((oa, .inl (cy 2, 1, .inr (.inl f))) :: w) sz yL_addressOf (wsL_addressOf ++ exW) 2 0 0 42 [.ref (ad 0), .int 0, .ref oa] (some (.int 0)) (fun H => va_P D vwCl [(oa, .inl (cy 2, 1, .inr (.inl (vp_updL f 0 (0)))))] H) := by
  refine wr_ofW (cc := cL_addressOf) (maxL := 4) (ret := (some .int)) (hh := [(0, 9, 12, 21)]) (lv := [(0, .ref (ad 0)), (1, .int 0), (2, .ref oa)]) (by decide) rfl (Nat.le_of_ble_eq_true rfl) rfl ?_
  intro p e s m below meth c ls hx hb hr hml hown hlocks htab hts hv hl
  have hown : s.vm.findClass RL = some m.cls := hown
  obtain ⟨⟨⟨hsz, hP, hD0⟩, hK, hN⟩, hT⟩ := hv
  subst hsz
  have hD := hD0.self (sz := s.heap.size)
  generalize hAe : va_A ((oa, .inl (cy 2, 1, .inr (.inl f))) :: w) s.heap.size = A at hD ⊢
  have hA : ∀ q : Nat, s.heap.size ≤ q → A q := fun q h => by rw [← hAe]; exact Or.inr h
  have hS : va_S A s.heap s.heap [] := va_S.rf
  have F := frc_mono F (fun q hq => List.mem_cons_of_mem (oa, .inl (cy 2, 1, .inr (.inl f))) hq)
  refine lv_aload_n hx hb dL_addressOf_0 rfl (lv_at hl 2 rfl) ?_
  refine lv_iconst (v := 0) hx hb dL_addressOf_1 (by decide) ?_
  refine lv_aload_n hx hb dL_addressOf_2 rfl (lv_at hl 0 rfl) ?_
  refine lv_iload_n hx hb dL_addressOf_3 rfl (lv_at hl 1 rfl) ?_
  obtain ⟨k_1, hk_1⟩ := frc_hub F
  refine ro_callV (As := [.int 0]) (rest := [.int 0, .ref oa]) ⟨hx, hb, hml, hown, hts⟩ (c_addressOf_ok l D cy F) (cwV 1 hts (goodL gL_addressOf_X9_addressOf) rfl rfl rfl (by decide +kernel) ⟨by decide, by decide⟩) hK hN hP hS (ci := 14) rfl hk_1 rfl rfl hl.1 rfl (Nat.le_of_ble_eq_true rfl) dL_addressOf_4 ⟨Nat.le_of_ble_eq_true rfl, Nat.le_of_ble_eq_true rfl⟩ (fun H locs hP hS => ?_)
  refine lv_i2l (v := 0) hx hb dL_addressOf_7 (by decide) ?_
  refine va_last hx hb hK hP hD hS 0 2 rfl rfl (by unfold vp_in; decide) dL_addressOf_8 (fun H locs hP hD hS => ?_)
  rw [my_upd0] at hP
  have hB := my_one (ko := 0) hP rfl
  refine lv_goto (tgt := 15) hx hb dL_addressOf_9 (by decide) ?_
  refine lv_iconst (v := 0) hx hb dL_addressOf_15 (by decide) ?_
  exact W.iret hx hb hr (fun t ht hW => ⟨rfl, by rw [ht]; exact hB, hS.F ht⟩) hS.2.2 dL_addressOf_16

set_option maxRecDepth 100000 in
set_option maxHeartbeats 4000000 in
theorem w_addressOf_1 (l : Launch) (D : va_G) (cy : Nat → ClassId) {ad : Nat → Nat} {rw_ : Nat → Nat → Option Nat} {w : va_W} (F : FrC cy ad rw_ w) (hst : l.stackTraces = false) (oa : Nat) (f : Nat → Int64) (sz : Nat) (d : Int32) (hd : ¬ d = 0) : MW l D cy ((oa, .inl (cy 2, 1, .inr (.inl f))) :: w) sz yL_addressOf (wsL_addressOf ++ exW) 8 1 6 124 [.ref (ad 0), .int d, .ref oa] (some (.int 1)) (fun _ => True) := by
  refine wr_ofW (cc := cL_addressOf) (maxL := 4) (ret := (some .int)) (hh := [(0, 9, 12, 21)]) (lv := [(0, .ref (ad 0)), (1, .int d), (2, .ref oa)]) (by decide) rfl (Nat.le_of_ble_eq_true rfl) rfl ?_
  intro p e s m below meth c ls hx hb hr hml hown hlocks htab hts hv hl
  have hown : s.vm.findClass RL = some m.cls := hown
  obtain ⟨⟨⟨hsz, hP, hD0⟩, hK, hN⟩, hT⟩ := hv
  subst hsz
  have hS : va_S (fun _ => False) s.heap s.heap [] := va_S.rf
  have F := frc_mono F (fun q hq => List.mem_cons_of_mem (oa, .inl (cy 2, 1, .inr (.inl f))) hq)
  refine lv_aload_n hx hb dL_addressOf_0 rfl (lv_at hl 2 rfl) ?_
  refine lv_iconst (v := 0) hx hb dL_addressOf_1 (by decide) ?_
  refine lv_aload_n hx hb dL_addressOf_2 rfl (lv_at hl 0 rfl) ?_
  refine lv_iload_n hx hb dL_addressOf_3 rfl (lv_at hl 1 rfl) ?_
  obtain ⟨k_1, hk_1⟩ := frc_hub F
  refine th_catchV (As := [.int d]) (rest := [.int 0, .ref oa]) ⟨hx, hb, hml, hown, hts⟩ (c_addressOf_x1 l D cy F hst d hd) (cwV 1 hts (goodL gL_addressOf_X9_addressOf) rfl rfl rfl (by decide +kernel) ⟨by decide, by decide⟩) hK hN hP hT hS (ci := 14) (q0 := k_1) rfl hk_1 rfl rfl hl.1 rfl (Nat.le_of_ble_eq_true rfl) dL_addressOf_4 ⟨Nat.le_of_ble_eq_true rfl, Nat.le_of_ble_eq_true rfl⟩ [] ⟨0, 9, 12, 21⟩ [] htab (fun _ h => absurd h List.not_mem_nil) (by decide) (by decide) (hts _ (List.mem_append_right _ exW_21)) (va_Nw.use rfl (hT.2.2.1 "java/lang/IndexOutOfBoundsException" (by decide))) (fun qx H locs hS => ?_)
  refine lv_astore_n (lv' := [(3, .ref qx), (0, .ref (ad 0)), (1, .int d), (2, .ref oa)]) hx hb dL_addressOf_12 rfl hl (by decide) rfl (fun ls hl => ?_)
  refine lv_iconst (v := 1) hx hb dL_addressOf_13 (by decide) ?_
  refine W.widen (k := 1) (n := 6) (Nat.le_of_ble_eq_true rfl) (Nat.le_of_ble_eq_true rfl) ?_
  exact W.iret hx hb hr (fun t ht hW => ⟨rfl, trivial, hS.F2 ht⟩) (fun z hz => (hS.2.2 z hz).elim) dL_addressOf_14

set_option maxRecDepth 100000 in
set_option maxHeartbeats 4000000 in
theorem w_driverOf_0 (l : Launch) (D : va_G) (cy : Nat → ClassId) {ad : Nat → Nat} {rw_ : Nat → Nat → Option Nat} {w : va_W} (F : FrC cy ad rw_ w) (oa : Nat) (f : Nat → Int64) (sz : Nat) : MW l D cy ((oa, .inl (cy 2, 1, .inr (.inl f))) :: w) sz yL_driverOf (wsL_driverOf ++ exW) 2 0 0 42 [.ref (ad 0), .int 0, .ref oa] (some (.int 0)) (fun H => va_P D vwCl [(oa, .inl (cy 2, 1, .inr (.inl (vp_updL f 0 ((-1))))))] H) := by
  refine wr_ofW (cc := cL_driverOf) (maxL := 4) (ret := (some .int)) (hh := [(0, 9, 12, 21)]) (lv := [(0, .ref (ad 0)), (1, .int 0), (2, .ref oa)]) (by decide) rfl (Nat.le_of_ble_eq_true rfl) rfl ?_
  intro p e s m below meth c ls hx hb hr hml hown hlocks htab hts hv hl
  have hown : s.vm.findClass RL = some m.cls := hown
  obtain ⟨⟨⟨hsz, hP, hD0⟩, hK, hN⟩, hT⟩ := hv
  subst hsz
  have hD := hD0.self (sz := s.heap.size)
  generalize hAe : va_A ((oa, .inl (cy 2, 1, .inr (.inl f))) :: w) s.heap.size = A at hD ⊢
  have hA : ∀ q : Nat, s.heap.size ≤ q → A q := fun q h => by rw [← hAe]; exact Or.inr h
  have hS : va_S A s.heap s.heap [] := va_S.rf
  have F := frc_mono F (fun q hq => List.mem_cons_of_mem (oa, .inl (cy 2, 1, .inr (.inl f))) hq)
  refine lv_aload_n hx hb dL_driverOf_0 rfl (lv_at hl 2 rfl) ?_
  refine lv_iconst (v := 0) hx hb dL_driverOf_1 (by decide) ?_
  refine lv_aload_n hx hb dL_driverOf_2 rfl (lv_at hl 0 rfl) ?_
  refine lv_iload_n hx hb dL_driverOf_3 rfl (lv_at hl 1 rfl) ?_
  obtain ⟨k_1, hk_1⟩ := frc_hub F
  refine ro_callV (As := [.int 0]) (rest := [.int 0, .ref oa]) ⟨hx, hb, hml, hown, hts⟩ (c_driverOf_ok l D cy F) (cwV 1 hts (goodL gL_driverOf_X9_driverOf) rfl rfl rfl (by decide +kernel) ⟨by decide, by decide⟩) hK hN hP hS (ci := 14) rfl hk_1 rfl rfl hl.1 rfl (Nat.le_of_ble_eq_true rfl) dL_driverOf_4 ⟨Nat.le_of_ble_eq_true rfl, Nat.le_of_ble_eq_true rfl⟩ (fun H locs hP hS => ?_)
  refine lv_i2l (v := (-1)) hx hb dL_driverOf_7 (by decide) ?_
  refine va_last hx hb hK hP hD hS 0 2 rfl rfl (by unfold vp_in; decide) dL_driverOf_8 (fun H locs hP hD hS => ?_)
  rw [my_upd0] at hP
  have hB := my_one (ko := 0) hP rfl
  refine lv_goto (tgt := 15) hx hb dL_driverOf_9 (by decide) ?_
  refine lv_iconst (v := 0) hx hb dL_driverOf_15 (by decide) ?_
  exact W.iret hx hb hr (fun t ht hW => ⟨rfl, by rw [ht]; exact hB, hS.F ht⟩) hS.2.2 dL_driverOf_16

set_option maxRecDepth 100000 in
set_option maxHeartbeats 4000000 in
theorem w_driverOf_1 (l : Launch) (D : va_G) (cy : Nat → ClassId) {ad : Nat → Nat} {rw_ : Nat → Nat → Option Nat} {w : va_W} (F : FrC cy ad rw_ w) (hst : l.stackTraces = false) (oa : Nat) (f : Nat → Int64) (sz : Nat) (d : Int32) (hd : ¬ d = 0) : MW l D cy ((oa, .inl (cy 2, 1, .inr (.inl f))) :: w) sz yL_driverOf (wsL_driverOf ++ exW) 8 1 6 124 [.ref (ad 0), .int d, .ref oa] (some (.int 1)) (fun _ => True) := by
  refine wr_ofW (cc := cL_driverOf) (maxL := 4) (ret := (some .int)) (hh := [(0, 9, 12, 21)]) (lv := [(0, .ref (ad 0)), (1, .int d), (2, .ref oa)]) (by decide) rfl (Nat.le_of_ble_eq_true rfl) rfl ?_
  intro p e s m below meth c ls hx hb hr hml hown hlocks htab hts hv hl
  have hown : s.vm.findClass RL = some m.cls := hown
  obtain ⟨⟨⟨hsz, hP, hD0⟩, hK, hN⟩, hT⟩ := hv
  subst hsz
  have hS : va_S (fun _ => False) s.heap s.heap [] := va_S.rf
  have F := frc_mono F (fun q hq => List.mem_cons_of_mem (oa, .inl (cy 2, 1, .inr (.inl f))) hq)
  refine lv_aload_n hx hb dL_driverOf_0 rfl (lv_at hl 2 rfl) ?_
  refine lv_iconst (v := 0) hx hb dL_driverOf_1 (by decide) ?_
  refine lv_aload_n hx hb dL_driverOf_2 rfl (lv_at hl 0 rfl) ?_
  refine lv_iload_n hx hb dL_driverOf_3 rfl (lv_at hl 1 rfl) ?_
  obtain ⟨k_1, hk_1⟩ := frc_hub F
  refine th_catchV (As := [.int d]) (rest := [.int 0, .ref oa]) ⟨hx, hb, hml, hown, hts⟩ (c_driverOf_x1 l D cy F hst d hd) (cwV 1 hts (goodL gL_driverOf_X9_driverOf) rfl rfl rfl (by decide +kernel) ⟨by decide, by decide⟩) hK hN hP hT hS (ci := 14) (q0 := k_1) rfl hk_1 rfl rfl hl.1 rfl (Nat.le_of_ble_eq_true rfl) dL_driverOf_4 ⟨Nat.le_of_ble_eq_true rfl, Nat.le_of_ble_eq_true rfl⟩ [] ⟨0, 9, 12, 21⟩ [] htab (fun _ h => absurd h List.not_mem_nil) (by decide) (by decide) (hts _ (List.mem_append_right _ exW_21)) (va_Nw.use rfl (hT.2.2.1 "java/lang/IndexOutOfBoundsException" (by decide))) (fun qx H locs hS => ?_)
  refine lv_astore_n (lv' := [(3, .ref qx), (0, .ref (ad 0)), (1, .int d), (2, .ref oa)]) hx hb dL_driverOf_12 rfl hl (by decide) rfl (fun ls hl => ?_)
  refine lv_iconst (v := 1) hx hb dL_driverOf_13 (by decide) ?_
  refine W.widen (k := 1) (n := 6) (Nat.le_of_ble_eq_true rfl) (Nat.le_of_ble_eq_true rfl) ?_
  exact W.iret hx hb hr (fun t ht hW => ⟨rfl, trivial, hS.F2 ht⟩) (fun z hz => (hS.2.2 z hz).elim) dL_driverOf_14

set_option maxRecDepth 100000 in
set_option maxHeartbeats 4000000 in
theorem w_blame_0 (l : Launch) (D : va_G) (cy : Nat → ClassId) {ad : Nat → Nat} {rw_ : Nat → Nat → Option Nat} {w : va_W} (F : FrC cy ad rw_ w) (oa : Nat) (f : Nat → Int64) (sz : Nat) : MW l D cy ((oa, .inl (cy 2, 1, .inr (.inl f))) :: w) sz yL_blame (wsL_blame ++ exW) 2 0 0 42 [.ref (ad 0), .int 0, .ref oa] (some (.int 0)) (fun H => va_P D vwCl [(oa, .inl (cy 2, 1, .inr (.inl (vp_updL f 0 (0)))))] H) := by
  refine wr_ofW (cc := cL_blame) (maxL := 4) (ret := (some .int)) (hh := [(0, 9, 12, 21)]) (lv := [(0, .ref (ad 0)), (1, .int 0), (2, .ref oa)]) (by decide) rfl (Nat.le_of_ble_eq_true rfl) rfl ?_
  intro p e s m below meth c ls hx hb hr hml hown hlocks htab hts hv hl
  have hown : s.vm.findClass RL = some m.cls := hown
  obtain ⟨⟨⟨hsz, hP, hD0⟩, hK, hN⟩, hT⟩ := hv
  subst hsz
  have hD := hD0.self (sz := s.heap.size)
  generalize hAe : va_A ((oa, .inl (cy 2, 1, .inr (.inl f))) :: w) s.heap.size = A at hD ⊢
  have hA : ∀ q : Nat, s.heap.size ≤ q → A q := fun q h => by rw [← hAe]; exact Or.inr h
  have hS : va_S A s.heap s.heap [] := va_S.rf
  have F := frc_mono F (fun q hq => List.mem_cons_of_mem (oa, .inl (cy 2, 1, .inr (.inl f))) hq)
  refine lv_aload_n hx hb dL_blame_0 rfl (lv_at hl 2 rfl) ?_
  refine lv_iconst (v := 0) hx hb dL_blame_1 (by decide) ?_
  refine lv_aload_n hx hb dL_blame_2 rfl (lv_at hl 0 rfl) ?_
  refine lv_iload_n hx hb dL_blame_3 rfl (lv_at hl 1 rfl) ?_
  obtain ⟨k_1, hk_1⟩ := frc_hub F
  refine ro_callV (As := [.int 0]) (rest := [.int 0, .ref oa]) ⟨hx, hb, hml, hown, hts⟩ (c_blame_ok l D cy F) (cwV 1 hts (goodL gL_blame_X9_blame) rfl rfl rfl (by decide +kernel) ⟨by decide, by decide⟩) hK hN hP hS (ci := 14) rfl hk_1 rfl rfl hl.1 rfl (Nat.le_of_ble_eq_true rfl) dL_blame_4 ⟨Nat.le_of_ble_eq_true rfl, Nat.le_of_ble_eq_true rfl⟩ (fun H locs hP hS => ?_)
  refine lv_i2l (v := 0) hx hb dL_blame_7 (by decide) ?_
  refine va_last hx hb hK hP hD hS 0 2 rfl rfl (by unfold vp_in; decide) dL_blame_8 (fun H locs hP hD hS => ?_)
  rw [my_upd0] at hP
  have hB := my_one (ko := 0) hP rfl
  refine lv_goto (tgt := 15) hx hb dL_blame_9 (by decide) ?_
  refine lv_iconst (v := 0) hx hb dL_blame_15 (by decide) ?_
  exact W.iret hx hb hr (fun t ht hW => ⟨rfl, by rw [ht]; exact hB, hS.F ht⟩) hS.2.2 dL_blame_16

set_option maxRecDepth 100000 in
set_option maxHeartbeats 4000000 in
theorem w_blame_1 (l : Launch) (D : va_G) (cy : Nat → ClassId) {ad : Nat → Nat} {rw_ : Nat → Nat → Option Nat} {w : va_W} (F : FrC cy ad rw_ w) (hst : l.stackTraces = false) (oa : Nat) (f : Nat → Int64) (sz : Nat) (d : Int32) (hd : ¬ d = 0) : MW l D cy ((oa, .inl (cy 2, 1, .inr (.inl f))) :: w) sz yL_blame (wsL_blame ++ exW) 8 1 6 124 [.ref (ad 0), .int d, .ref oa] (some (.int 1)) (fun _ => True) := by
  refine wr_ofW (cc := cL_blame) (maxL := 4) (ret := (some .int)) (hh := [(0, 9, 12, 21)]) (lv := [(0, .ref (ad 0)), (1, .int d), (2, .ref oa)]) (by decide) rfl (Nat.le_of_ble_eq_true rfl) rfl ?_
  intro p e s m below meth c ls hx hb hr hml hown hlocks htab hts hv hl
  have hown : s.vm.findClass RL = some m.cls := hown
  obtain ⟨⟨⟨hsz, hP, hD0⟩, hK, hN⟩, hT⟩ := hv
  subst hsz
  have hS : va_S (fun _ => False) s.heap s.heap [] := va_S.rf
  have F := frc_mono F (fun q hq => List.mem_cons_of_mem (oa, .inl (cy 2, 1, .inr (.inl f))) hq)
  refine lv_aload_n hx hb dL_blame_0 rfl (lv_at hl 2 rfl) ?_
  refine lv_iconst (v := 0) hx hb dL_blame_1 (by decide) ?_
  refine lv_aload_n hx hb dL_blame_2 rfl (lv_at hl 0 rfl) ?_
  refine lv_iload_n hx hb dL_blame_3 rfl (lv_at hl 1 rfl) ?_
  obtain ⟨k_1, hk_1⟩ := frc_hub F
  refine th_catchV (As := [.int d]) (rest := [.int 0, .ref oa]) ⟨hx, hb, hml, hown, hts⟩ (c_blame_x1 l D cy F hst d hd) (cwV 1 hts (goodL gL_blame_X9_blame) rfl rfl rfl (by decide +kernel) ⟨by decide, by decide⟩) hK hN hP hT hS (ci := 14) (q0 := k_1) rfl hk_1 rfl rfl hl.1 rfl (Nat.le_of_ble_eq_true rfl) dL_blame_4 ⟨Nat.le_of_ble_eq_true rfl, Nat.le_of_ble_eq_true rfl⟩ [] ⟨0, 9, 12, 21⟩ [] htab (fun _ h => absurd h List.not_mem_nil) (by decide) (by decide) (hts _ (List.mem_append_right _ exW_21)) (va_Nw.use rfl (hT.2.2.1 "java/lang/IndexOutOfBoundsException" (by decide))) (fun qx H locs hS => ?_)
  refine lv_astore_n (lv' := [(3, .ref qx), (0, .ref (ad 0)), (1, .int d), (2, .ref oa)]) hx hb dL_blame_12 rfl hl (by decide) rfl (fun ls hl => ?_)
  refine lv_iconst (v := 1) hx hb dL_blame_13 (by decide) ?_
  refine W.widen (k := 1) (n := 6) (Nat.le_of_ble_eq_true rfl) (Nat.le_of_ble_eq_true rfl) ?_
  exact W.iret hx hb hr (fun t ht hW => ⟨rfl, trivial, hS.F2 ht⟩) (fun z hz => (hS.2.2 z hz).elim) dL_blame_14

set_option maxRecDepth 100000 in
set_option maxHeartbeats 4000000 in
theorem w_translator_2 (l : Launch) (D : va_G) (cy : Nat → ClassId) {ad : Nat → Nat} {rw_ : Nat → Nat → Option Nat} {w : va_W} (F : FrC cy ad rw_ w) (hst : l.stackTraces = false) (oa : Nat) (f : Nat → Int64) (sz : Nat) : MW l D cy ((oa, .inl (cy 2, 1, .inr (.inl f))) :: w) sz yL_translator (wsL_translator ++ exW) 7 1 6 104 [.ref (ad 0), .int 0, .ref oa] (some (.int 2)) (fun _ => True) := by
  refine wr_ofW (cc := cL_translator) (maxL := 4) (ret := (some .int)) (hh := [(0, 9, 12, 21), (0, 9, 15, 23)]) (lv := [(0, .ref (ad 0)), (1, .int 0), (2, .ref oa)]) (by decide) rfl (Nat.le_of_ble_eq_true rfl) rfl ?_
  intro p e s m below meth c ls hx hb hr hml hown hlocks htab hts hv hl
  have hown : s.vm.findClass RL = some m.cls := hown
  obtain ⟨⟨⟨hsz, hP, hD0⟩, hK, hN⟩, hT⟩ := hv
  subst hsz
  have hS : va_S (fun _ => False) s.heap s.heap [] := va_S.rf
  have F := frc_mono F (fun q hq => List.mem_cons_of_mem (oa, .inl (cy 2, 1, .inr (.inl f))) hq)
  refine lv_aload_n hx hb dL_translator_0 rfl (lv_at hl 2 rfl) ?_
  refine lv_iconst (v := 0) hx hb dL_translator_1 (by decide) ?_
  refine lv_aload_n hx hb dL_translator_2 rfl (lv_at hl 0 rfl) ?_
  refine lv_iload_n hx hb dL_translator_3 rfl (lv_at hl 1 rfl) ?_
  obtain ⟨k_1, hk_1⟩ := frc_hub F
  refine th_catchV (As := [.int 0]) (rest := [.int 0, .ref oa]) ⟨hx, hb, hml, hown, hts⟩ (c_translator_x2 l D cy F hst) (cwV 1 hts (goodL gL_translator_X9_translator) rfl rfl rfl (by decide +kernel) ⟨by decide, by decide⟩) hK hN hP hT hS (ci := 14) (q0 := k_1) rfl hk_1 rfl rfl hl.1 rfl (Nat.le_of_ble_eq_true rfl) dL_translator_4 ⟨Nat.le_of_ble_eq_true rfl, Nat.le_of_ble_eq_true rfl⟩ [⟨0, 9, 12, 21⟩] ⟨0, 9, 15, 23⟩ [] htab (by intro z hz; simp only [List.mem_cons, List.not_mem_nil, or_false] at hz; subst hz; exact Or.inr ⟨by decide, "java/lang/IndexOutOfBoundsException", hts _ (List.mem_append_right _ exW_21), hT.2.2.2.2 "java/lang/UnsupportedOperationException" (by decide) "java/lang/IndexOutOfBoundsException" (by decide) (by decide)⟩) (by decide) (by decide) (hts _ (List.mem_append_right _ exW_23)) (va_Nw.use rfl (hT.2.2.1 "java/lang/UnsupportedOperationException" (by decide))) (fun qx H locs hS => ?_)
  refine lv_astore_n (lv' := [(3, .ref qx), (0, .ref (ad 0)), (1, .int 0), (2, .ref oa)]) hx hb dL_translator_15 rfl hl (by decide) rfl (fun ls hl => ?_)
  refine lv_iconst (v := 2) hx hb dL_translator_16 (by decide) ?_
  refine W.widen (k := 1) (n := 6) (Nat.le_of_ble_eq_true rfl) (Nat.le_of_ble_eq_true rfl) ?_
  exact W.iret hx hb hr (fun t ht hW => ⟨rfl, trivial, hS.F2 ht⟩) (fun z hz => (hS.2.2 z hz).elim) dL_translator_17

set_option maxRecDepth 100000 in
set_option maxHeartbeats 4000000 in
theorem w_translator_1 (l : Launch) (D : va_G) (cy : Nat → ClassId) {ad : Nat → Nat} {rw_ : Nat → Nat → Option Nat} {w : va_W} (F : FrC cy ad rw_ w) (hst : l.stackTraces = false) (oa : Nat) (f : Nat → Int64) (sz : Nat) (d : Int32) (hd : ¬ d = 0) : MW l D cy ((oa, .inl (cy 2, 1, .inr (.inl f))) :: w) sz yL_translator (wsL_translator ++ exW) 8 1 6 125 [.ref (ad 0), .int d, .ref oa] (some (.int 1)) (fun _ => True) := by
  refine wr_ofW (cc := cL_translator) (maxL := 4) (ret := (some .int)) (hh := [(0, 9, 12, 21), (0, 9, 15, 23)]) (lv := [(0, .ref (ad 0)), (1, .int d), (2, .ref oa)]) (by decide) rfl (Nat.le_of_ble_eq_true rfl) rfl ?_
  intro p e s m below meth c ls hx hb hr hml hown hlocks htab hts hv hl
  have hown : s.vm.findClass RL = some m.cls := hown
  obtain ⟨⟨⟨hsz, hP, hD0⟩, hK, hN⟩, hT⟩ := hv
  subst hsz
  have hS : va_S (fun _ => False) s.heap s.heap [] := va_S.rf
  have F := frc_mono F (fun q hq => List.mem_cons_of_mem (oa, .inl (cy 2, 1, .inr (.inl f))) hq)
  refine lv_aload_n hx hb dL_translator_0 rfl (lv_at hl 2 rfl) ?_
  refine lv_iconst (v := 0) hx hb dL_translator_1 (by decide) ?_
  refine lv_aload_n hx hb dL_translator_2 rfl (lv_at hl 0 rfl) ?_
  refine lv_iload_n hx hb dL_translator_3 rfl (lv_at hl 1 rfl) ?_
  obtain ⟨k_1, hk_1⟩ := frc_hub F
  refine th_catchV (As := [.int d]) (rest := [.int 0, .ref oa]) ⟨hx, hb, hml, hown, hts⟩ (c_translator_x1 l D cy F hst d hd) (cwV 1 hts (goodL gL_translator_X9_translator) rfl rfl rfl (by decide +kernel) ⟨by decide, by decide⟩) hK hN hP hT hS (ci := 14) (q0 := k_1) rfl hk_1 rfl rfl hl.1 rfl (Nat.le_of_ble_eq_true rfl) dL_translator_4 ⟨Nat.le_of_ble_eq_true rfl, Nat.le_of_ble_eq_true rfl⟩ [] ⟨0, 9, 12, 21⟩ [⟨0, 9, 15, 23⟩] htab (fun _ h => absurd h List.not_mem_nil) (by decide) (by decide) (hts _ (List.mem_append_right _ exW_21)) (va_Nw.use rfl (hT.2.2.1 "java/lang/IndexOutOfBoundsException" (by decide))) (fun qx H locs hS => ?_)
  refine lv_astore_n (lv' := [(3, .ref qx), (0, .ref (ad 0)), (1, .int d), (2, .ref oa)]) hx hb dL_translator_12 rfl hl (by decide) rfl (fun ls hl => ?_)
  refine lv_iconst (v := 1) hx hb dL_translator_13 (by decide) ?_
  refine W.widen (k := 1) (n := 6) (Nat.le_of_ble_eq_true rfl) (Nat.le_of_ble_eq_true rfl) ?_
  exact W.iret hx hb hr (fun t ht hW => ⟨rfl, trivial, hS.F2 ht⟩) (fun z hz => (hS.2.2 z hz).elim) dL_translator_14

set_option maxRecDepth 100000 in
set_option maxHeartbeats 4000000 in
theorem w_wake_2 (l : Launch) (D : va_G) (cy : Nat → ClassId) {ad : Nat → Nat} {rw_ : Nat → Nat → Option Nat} {w : va_W} (F : FrC cy ad rw_ w) (hst : l.stackTraces = false) (oa : Nat) (f : Nat → Int64) (sz : Nat) : MW l D cy ((oa, .inl (cy 2, 1, .inr (.inl f))) :: w) sz yL_wake (wsL_wake ++ exW) 7 1 6 107 [.ref (ad 0), .int 0, .ref oa] (some (.int 2)) (fun _ => True) := by
  refine wr_ofW (cc := cL_wake) (maxL := 4) (ret := (some .int)) (hh := [(0, 9, 12, 21), (0, 9, 15, 23)]) (lv := [(0, .ref (ad 0)), (1, .int 0), (2, .ref oa)]) (by decide) rfl (Nat.le_of_ble_eq_true rfl) rfl ?_
  intro p e s m below meth c ls hx hb hr hml hown hlocks htab hts hv hl
  have hown : s.vm.findClass RL = some m.cls := hown
  obtain ⟨⟨⟨hsz, hP, hD0⟩, hK, hN⟩, hT⟩ := hv
  subst hsz
  have hS : va_S (fun _ => False) s.heap s.heap [] := va_S.rf
  have F := frc_mono F (fun q hq => List.mem_cons_of_mem (oa, .inl (cy 2, 1, .inr (.inl f))) hq)
  refine lv_aload_n hx hb dL_wake_0 rfl (lv_at hl 2 rfl) ?_
  refine lv_iconst (v := 0) hx hb dL_wake_1 (by decide) ?_
  refine lv_aload_n hx hb dL_wake_2 rfl (lv_at hl 0 rfl) ?_
  refine lv_iload_n hx hb dL_wake_3 rfl (lv_at hl 1 rfl) ?_
  obtain ⟨k_1, hk_1⟩ := frc_hub F
  refine th_catchV (As := [.int 0]) (rest := [.int 0, .ref oa]) ⟨hx, hb, hml, hown, hts⟩ (c_wake_x2 l D cy F hst) (cwV 1 hts (goodL gL_wake_X9_wake) rfl rfl rfl (by decide +kernel) ⟨by decide, by decide⟩) hK hN hP hT hS (ci := 14) (q0 := k_1) rfl hk_1 rfl rfl hl.1 rfl (Nat.le_of_ble_eq_true rfl) dL_wake_4 ⟨Nat.le_of_ble_eq_true rfl, Nat.le_of_ble_eq_true rfl⟩ [⟨0, 9, 12, 21⟩] ⟨0, 9, 15, 23⟩ [] htab (by intro z hz; simp only [List.mem_cons, List.not_mem_nil, or_false] at hz; subst hz; exact Or.inr ⟨by decide, "java/lang/IndexOutOfBoundsException", hts _ (List.mem_append_right _ exW_21), hT.2.2.2.2 "java/lang/UnsupportedOperationException" (by decide) "java/lang/IndexOutOfBoundsException" (by decide) (by decide)⟩) (by decide) (by decide) (hts _ (List.mem_append_right _ exW_23)) (va_Nw.use rfl (hT.2.2.1 "java/lang/UnsupportedOperationException" (by decide))) (fun qx H locs hS => ?_)
  refine lv_astore_n (lv' := [(3, .ref qx), (0, .ref (ad 0)), (1, .int 0), (2, .ref oa)]) hx hb dL_wake_15 rfl hl (by decide) rfl (fun ls hl => ?_)
  refine lv_iconst (v := 2) hx hb dL_wake_16 (by decide) ?_
  refine W.widen (k := 1) (n := 6) (Nat.le_of_ble_eq_true rfl) (Nat.le_of_ble_eq_true rfl) ?_
  exact W.iret hx hb hr (fun t ht hW => ⟨rfl, trivial, hS.F2 ht⟩) (fun z hz => (hS.2.2 z hz).elim) dL_wake_17

set_option maxRecDepth 100000 in
set_option maxHeartbeats 4000000 in
theorem w_wake_1 (l : Launch) (D : va_G) (cy : Nat → ClassId) {ad : Nat → Nat} {rw_ : Nat → Nat → Option Nat} {w : va_W} (F : FrC cy ad rw_ w) (hst : l.stackTraces = false) (oa : Nat) (f : Nat → Int64) (sz : Nat) (d : Int32) (hd : ¬ d = 0) : MW l D cy ((oa, .inl (cy 2, 1, .inr (.inl f))) :: w) sz yL_wake (wsL_wake ++ exW) 8 1 6 128 [.ref (ad 0), .int d, .ref oa] (some (.int 1)) (fun _ => True) := by
  refine wr_ofW (cc := cL_wake) (maxL := 4) (ret := (some .int)) (hh := [(0, 9, 12, 21), (0, 9, 15, 23)]) (lv := [(0, .ref (ad 0)), (1, .int d), (2, .ref oa)]) (by decide) rfl (Nat.le_of_ble_eq_true rfl) rfl ?_
  intro p e s m below meth c ls hx hb hr hml hown hlocks htab hts hv hl
  have hown : s.vm.findClass RL = some m.cls := hown
  obtain ⟨⟨⟨hsz, hP, hD0⟩, hK, hN⟩, hT⟩ := hv
  subst hsz
  have hS : va_S (fun _ => False) s.heap s.heap [] := va_S.rf
  have F := frc_mono F (fun q hq => List.mem_cons_of_mem (oa, .inl (cy 2, 1, .inr (.inl f))) hq)
  refine lv_aload_n hx hb dL_wake_0 rfl (lv_at hl 2 rfl) ?_
  refine lv_iconst (v := 0) hx hb dL_wake_1 (by decide) ?_
  refine lv_aload_n hx hb dL_wake_2 rfl (lv_at hl 0 rfl) ?_
  refine lv_iload_n hx hb dL_wake_3 rfl (lv_at hl 1 rfl) ?_
  obtain ⟨k_1, hk_1⟩ := frc_hub F
  refine th_catchV (As := [.int d]) (rest := [.int 0, .ref oa]) ⟨hx, hb, hml, hown, hts⟩ (c_wake_x1 l D cy F hst d hd) (cwV 1 hts (goodL gL_wake_X9_wake) rfl rfl rfl (by decide +kernel) ⟨by decide, by decide⟩) hK hN hP hT hS (ci := 14) (q0 := k_1) rfl hk_1 rfl rfl hl.1 rfl (Nat.le_of_ble_eq_true rfl) dL_wake_4 ⟨Nat.le_of_ble_eq_true rfl, Nat.le_of_ble_eq_true rfl⟩ [] ⟨0, 9, 12, 21⟩ [⟨0, 9, 15, 23⟩] htab (fun _ h => absurd h List.not_mem_nil) (by decide) (by decide) (hts _ (List.mem_append_right _ exW_21)) (va_Nw.use rfl (hT.2.2.1 "java/lang/IndexOutOfBoundsException" (by decide))) (fun qx H locs hS => ?_)
  refine lv_astore_n (lv' := [(3, .ref qx), (0, .ref (ad 0)), (1, .int d), (2, .ref oa)]) hx hb dL_wake_12 rfl hl (by decide) rfl (fun ls hl => ?_)
  refine lv_iconst (v := 1) hx hb dL_wake_13 (by decide) ?_
  refine W.widen (k := 1) (n := 6) (Nat.le_of_ble_eq_true rfl) (Nat.le_of_ble_eq_true rfl) ?_
  exact W.iret hx hb hr (fun t ht hW => ⟨rfl, trivial, hS.F2 ht⟩) (fun z hz => (hS.2.2 z hz).elim) dL_wake_14

set_option maxRecDepth 100000 in
set_option maxHeartbeats 4000000 in
theorem w_look_1 (l : Launch) (D : va_G) (cy : Nat → ClassId) {ad : Nat → Nat} {rw_ : Nat → Nat → Option Nat} {w : va_W} (F : FrC cy ad rw_ w) (hst : l.stackTraces = false) (oa : Nat) (f : Nat → Int64) (sz : Nat) : MW l D cy ((oa, .inl (cy 2, 1, .inr (.inl f))) :: w) sz yL_look (wsL_look ++ exW) 7 1 6 103 [.ref (ad 0), .ref oa] (some (.int 1)) (fun _ => True) := by
  refine wr_ofW (cc := cL_look) (maxL := 3) (ret := (some .int)) (hh := [(0, 8, 11, 56)]) (lv := [(0, .ref (ad 0)), (1, .ref oa)]) (by decide) rfl (Nat.le_of_ble_eq_true rfl) rfl ?_
  intro p e s m below meth c ls hx hb hr hml hown hlocks htab hts hv hl
  have hown : s.vm.findClass RL = some m.cls := hown
  obtain ⟨⟨⟨hsz, hP, hD0⟩, hK, hN⟩, hT⟩ := hv
  subst hsz
  have hS : va_S (fun _ => False) s.heap s.heap [] := va_S.rf
  have F := frc_mono F (fun q hq => List.mem_cons_of_mem (oa, .inl (cy 2, 1, .inr (.inl f))) hq)
  refine lv_aload_n hx hb dL_look_0 rfl (lv_at hl 1 rfl) ?_
  refine lv_iconst (v := 0) hx hb dL_look_1 (by decide) ?_
  refine lv_aload_n hx hb dL_look_2 rfl (lv_at hl 0 rfl) ?_
  obtain ⟨k_1, hk_1⟩ := frc_hub F
  refine th_catchV (As := []) (rest := [.int 0, .ref oa]) ⟨hx, hb, hml, hown, hts⟩ (c_look_x1 l D cy F hst) (cwV 0 hts (goodL gL_look_X9_look) rfl rfl rfl (by decide +kernel) ⟨by decide, by decide⟩) hK hN hP hT hS (ci := 14) (q0 := k_1) rfl hk_1 rfl rfl hl.1 rfl (Nat.le_of_ble_eq_true rfl) dL_look_3 ⟨Nat.le_of_ble_eq_true rfl, Nat.le_of_ble_eq_true rfl⟩ [] ⟨0, 8, 11, 56⟩ [] htab (fun _ h => absurd h List.not_mem_nil) (by decide) (by decide) (hts _ (List.mem_append_right _ exW_56)) (va_Nw.use rfl (hT.2.2.1 "java/util/NoSuchElementException" (by decide))) (fun qx H locs hS => ?_)
  refine lv_astore_n (lv' := [(2, .ref qx), (0, .ref (ad 0)), (1, .ref oa)]) hx hb dL_look_11 rfl hl (by decide) rfl (fun ls hl => ?_)
  refine lv_iconst (v := 1) hx hb dL_look_12 (by decide) ?_
  refine W.widen (k := 1) (n := 6) (Nat.le_of_ble_eq_true rfl) (Nat.le_of_ble_eq_true rfl) ?_
  exact W.iret hx hb hr (fun t ht hW => ⟨rfl, trivial, hS.F2 ht⟩) (fun z hz => (hS.2.2 z hz).elim) dL_look_13
