set_option maxRecDepth 100000 in
set_option maxHeartbeats 4000000 in
theorem c_isWithin_t (l : Launch) (D : va_G) (cy : Nat → ClassId) (w : va_W) (v a b : Int32) (h1 : ¬ v < a) (h2 : ¬ b < v) : RO l D cy w yX9_isWithin wsX9_isWithin 0 0 [.int v, .int a, .int b] (some (.int 1)) := by
  refine ro_ofW (cc := cX9_isWithin) (maxL := 3) (ret := (some .boolean)) (lv := [(0, .int v), (1, .int a), (2, .int b)]) (by decide) rfl (Nat.le_of_ble_eq_true rfl) rfl ?_
  intro p e s m below meth c ls hx hb hr hml hown hlocks hname hts hv hl
  have hown : s.vm.findClass RX9 = some m.cls := hown
  obtain ⟨hP, hK, hN⟩ := hv
  have hS : va_S (fun _ => False) s.heap s.heap [] := va_S.rf
  refine lv_iload_n hx hb dX9_isWithin_0 rfl (lv_at hl 0 rfl) ?_
  refine lv_iload_n hx hb dX9_isWithin_1 rfl (lv_at hl 1 rfl) ?_
  refine lv_icmp_lt (tgt := 14) hx hb dX9_isWithin_2 (by decide) (fun c => absurd c h1) (fun _ => ?_)
  refine lv_iload_n hx hb dX9_isWithin_5 rfl (lv_at hl 0 rfl) ?_
  refine lv_iload_n hx hb dX9_isWithin_6 rfl (lv_at hl 2 rfl) ?_
  refine lv_icmp_gt (tgt := 14) hx hb dX9_isWithin_7 (by decide) (fun c => absurd c h2) (fun _ => ?_)
  refine lv_iconst (v := 1) hx hb dX9_isWithin_10 (by decide) ?_
  refine lv_goto (tgt := 15) hx hb dX9_isWithin_11 (by decide) ?_
  exact W.zret hx hb hr (by decide) (fun t ht hW => ⟨rfl, hS.F ht⟩) hS.2.2 dX9_isWithin_15

set_option maxRecDepth 100000 in
set_option maxHeartbeats 4000000 in
theorem c_isWithin_f (l : Launch) (D : va_G) (cy : Nat → ClassId) (w : va_W) (v a b : Int32) (h : v < a ∨ b < v) : RO l D cy w yX9_isWithin wsX9_isWithin 0 0 [.int v, .int a, .int b] (some (.int 0)) := by
  refine ro_ofW (cc := cX9_isWithin) (maxL := 3) (ret := (some .boolean)) (lv := [(0, .int v), (1, .int a), (2, .int b)]) (by decide) rfl (Nat.le_of_ble_eq_true rfl) rfl ?_
  intro p e s m below meth c ls hx hb hr hml hown hlocks hname hts hv hl
  have hown : s.vm.findClass RX9 = some m.cls := hown
  obtain ⟨hP, hK, hN⟩ := hv
  have hS : va_S (fun _ => False) s.heap s.heap [] := va_S.rf
  refine lv_iload_n hx hb dX9_isWithin_0 rfl (lv_at hl 0 rfl) ?_
  refine lv_iload_n hx hb dX9_isWithin_1 rfl (lv_at hl 1 rfl) ?_
  refine lv_icmp_lt (tgt := 14) hx hb dX9_isWithin_2 (by decide) (fun c2 => ?_) (fun c2 => ?_)
  · refine lv_iconst (v := 0) hx hb dX9_isWithin_14 (by decide) ?_
    exact W.zret hx hb hr (by decide) (fun t ht hW => ⟨rfl, hS.F ht⟩) hS.2.2 dX9_isWithin_15
  · refine lv_iload_n hx hb dX9_isWithin_5 rfl (lv_at hl 0 rfl) ?_
    refine lv_iload_n hx hb dX9_isWithin_6 rfl (lv_at hl 2 rfl) ?_
    refine lv_icmp_gt (tgt := 14) hx hb dX9_isWithin_7 (by decide) (fun _ => ?_) (fun c => absurd (h.resolve_left c2) c)
    refine lv_iconst (v := 0) hx hb dX9_isWithin_14 (by decide) ?_
    exact W.zret hx hb hr (by decide) (fun t ht hW => ⟨rfl, hS.F ht⟩) hS.2.2 dX9_isWithin_15

theorem iw_X9_deviceAt_RX9 : ∀ w ∈ u_ws RX9 TX9 13, w ∈ wsX9_deviceAt := by decide +kernel
set_option maxRecDepth 100000 in
set_option maxHeartbeats 4000000 in
theorem c_deviceAt_ok (l : Launch) (D : va_G) (cy : Nat → ClassId) {ad : Nat → Nat} {rw_ : Nat → Nat → Option Nat} {w : va_W} (F : FrC cy ad rw_ w) : RO l D cy w yX9_deviceAt wsX9_deviceAt 0 0 [.ref (ad 0), .int 0] (some (.ref (ad 100))) := by
  refine ro_ofW (cc := cX9_deviceAt) (maxL := 2) (ret := (some (.object "Hubcascade$Device"))) (lv := [(0, .ref (ad 0)), (1, .int 0)]) (by decide) rfl (Nat.le_of_ble_eq_true rfl) rfl ?_
  intro p e s m below meth c ls hx hb hr hml hown hlocks hname hts hv hl
  have hown : s.vm.findClass RX9 = some m.cls := hown
  obtain ⟨hP, hK, hN⟩ := hv
  have hS : va_S (fun _ => False) s.heap s.heap [] := va_S.rf
  refine lv_iload_n hx hb dX9_deviceAt_0 rfl (lv_at hl 1 rfl) ?_
  refine lv_if_lt (tgt := 18) hx hb dX9_deviceAt_1 (by decide) (fun c => absurd c (by decide)) (fun _ => ?_)
  refine lv_iload_n hx hb dX9_deviceAt_4 rfl (lv_at hl 1 rfl) ?_
  refine lv_aload_n hx hb dX9_deviceAt_5 rfl (lv_at hl 0 rfl) ?_
  obtain ⟨k_1, hk_1⟩ := frc_hub F
  refine va_get (D := D) (ci := 14) (v := .int 1) (C := RX9) (T := TX9) (N := 13) hx hb hts iw_X9_deviceAt_RX9 hown hK hP k_1 hk_1 rfl 1 (by decide) (hts (.fieldLink RX9 81 "Hubcascade" "deviceCount" "I") (by decide +kernel)) (fun _ h9 => h9) rfl dX9_deviceAt_6 ?_
  refine lv_icmp_ge (tgt := 18) hx hb dX9_deviceAt_9 (by decide) (fun c => absurd c (by decide)) (fun _ => ?_)
  refine lv_iload_n hx hb dX9_deviceAt_12 rfl (lv_at hl 1 rfl) ?_
  refine lv_bipush (v := 16) hx hb dX9_deviceAt_13 (by decide) ?_
  refine lv_icmp_lt (tgt := 29) hx hb dX9_deviceAt_15 (by decide) (fun _ => ?_) (fun c => absurd (by decide) c)
  refine lv_aload_n hx hb dX9_deviceAt_29 rfl (lv_at hl 0 rfl) ?_
  refine va_get (D := D) (ci := 14) (v := .ref (ad 1)) (C := RX9) (T := TX9) (N := 13) hx hb hts iw_X9_deviceAt_RX9 hown hK hP k_1 hk_1 rfl 0 (by decide) (hts (.fieldLink RX9 11 "Hubcascade" "devices" "[LHubcascade$Device;") (by decide +kernel)) (fun _ h9 => h9) rfl dX9_deviceAt_30 ?_
  refine lv_iload_n hx hb dX9_deviceAt_33 rfl (lv_at hl 1 rfl) ?_
  obtain ⟨k_2, hk_2⟩ := frc_dv F
  refine my_ald hx hb hK hP k_2 4 hk_2 rfl (i := 0) (j := 0) (r := ad 100) (by decide) (by decide) (by decide) (frc_dvr F 0 (by decide)) dX9_deviceAt_34 ?_
  exact W.aret hx hb hr (Or.inl ⟨_, rfl⟩) (Or.inr ⟨_, rfl⟩) (fun t ht hW => ⟨rfl, hS.F ht⟩) hS.2.2 dX9_deviceAt_35

set_option maxRecDepth 100000 in
set_option maxHeartbeats 4000000 in
theorem c_deviceAt_ex (l : Launch) (D : va_G) (cy : Nat → ClassId) {ad : Nat → Nat} {rw_ : Nat → Nat → Option Nat} {w : va_W} (F : FrC cy ad rw_ w) (hst : l.stackTraces = false) (d : Int32) (hd : ¬ d = 0) : TH l D cy w yX9_deviceAt wsX9_deviceAt 6 82 [.ref (ad 0), .int d] "java/lang/IndexOutOfBoundsException" := by
  refine th_ofW (cc := cX9_deviceAt) (maxL := 2) (ret := (some (.object "Hubcascade$Device"))) (lv := [(0, .ref (ad 0)), (1, .int d)]) (by decide) rfl (Nat.le_of_ble_eq_true rfl) rfl ?_
  intro p e s m below meth c ls hx hb hr hml hown hlocks hout hts hv hl
  have hown : s.vm.findClass RX9 = some m.cls := hown
  obtain ⟨⟨hP, hK, hN⟩, hT⟩ := hv
  have hS : va_S (fun _ => False) s.heap s.heap [] := va_S.rf
  refine lv_iload_n hx hb dX9_deviceAt_0 rfl (lv_at hl 1 rfl) ?_
  refine lv_if_lt (tgt := 18) hx hb dX9_deviceAt_1 (by decide) (fun c1 => ?_) (fun c1 => ?_)
  · exact th_throwSW (text := "no such device") (WS := wsX9_deviceAt) hx hb hst hts hown (by decide +kernel) hT (by decide +kernel) (by decide +kernel) (by decide +kernel) (by decide +kernel) (by decide +kernel) (by decide +kernel) (by decide +kernel) hS (hl.1.trans hml.symm) dX9_deviceAt_18 dX9_deviceAt_21 dX9_deviceAt_22 dX9_deviceAt_25 dX9_deviceAt_28 hout hlocks (by decide) (by decide) (Nat.le_refl _) (Nat.le_refl _) (Nat.le_refl _) (Nat.le_refl _)
  · refine lv_iload_n hx hb dX9_deviceAt_4 rfl (lv_at hl 1 rfl) ?_
    refine lv_aload_n hx hb dX9_deviceAt_5 rfl (lv_at hl 0 rfl) ?_
    obtain ⟨k_1, hk_1⟩ := frc_hub F
    refine va_get (D := D) (ci := 14) (v := .int 1) (C := RX9) (T := TX9) (N := 13) hx hb hts iw_X9_deviceAt_RX9 hown hK hP k_1 hk_1 rfl 1 (by decide) (hts (.fieldLink RX9 81 "Hubcascade" "deviceCount" "I") (by decide +kernel)) (fun _ h9 => h9) rfl dX9_deviceAt_6 ?_
    refine lv_icmp_ge (tgt := 18) hx hb dX9_deviceAt_9 (by decide) (fun _ => ?_) (fun c => absurd (my_ge1 c1 hd) c)
    exact th_throwSW (text := "no such device") (WS := wsX9_deviceAt) hx hb hst hts hown (by decide +kernel) hT (by decide +kernel) (by decide +kernel) (by decide +kernel) (by decide +kernel) (by decide +kernel) (by decide +kernel) (by decide +kernel) hS (hl.1.trans hml.symm) dX9_deviceAt_18 dX9_deviceAt_21 dX9_deviceAt_22 dX9_deviceAt_25 dX9_deviceAt_28 hout hlocks (by decide) (by decide) (Nat.le_refl _) (Nat.le_refl _) (Nat.le_refl _) (Nat.le_refl _)

theorem iw_X9_stateOf_RX1 : ∀ w ∈ u_ws RX1 TX1 20, w ∈ wsX9_stateOf := by decide +kernel
set_option maxRecDepth 100000 in
set_option maxHeartbeats 4000000 in
theorem c_stateOf_ok (l : Launch) (D : va_G) (cy : Nat → ClassId) {ad : Nat → Nat} {rw_ : Nat → Nat → Option Nat} {w : va_W} (F : FrC cy ad rw_ w) : RO l D cy w yX9_stateOf wsX9_stateOf 1 21 [.ref (ad 0), .int 0] (some (.int 99)) := by
  refine ro_ofW (cc := cX9_stateOf) (maxL := 2) (ret := (some .char)) (lv := [(0, .ref (ad 0)), (1, .int 0)]) (by decide) rfl (Nat.le_of_ble_eq_true rfl) rfl ?_
  intro p e s m below meth c ls hx hb hr hml hown hlocks hname hts hv hl
  have hown : s.vm.findClass RX9 = some m.cls := hown
  obtain ⟨hP, hK, hN⟩ := hv
  have hS : va_S (fun _ => False) s.heap s.heap [] := va_S.rf
  refine lv_aload_n hx hb dX9_stateOf_0 rfl (lv_at hl 0 rfl) ?_
  refine lv_iload_n hx hb dX9_stateOf_1 rfl (lv_at hl 1 rfl) ?_
  obtain ⟨k_1, hk_1⟩ := frc_hub F
  refine ro_callV (As := [.int 0]) (rest := []) ⟨hx, hb, hml, hown, hts⟩ (c_deviceAt_ok l D cy F) (cwV 1 hts gX9_stateOf_X9_deviceAt rfl rfl rfl (by decide +kernel) ⟨by decide, by decide⟩) hK hN hP hS (ci := 14) rfl hk_1 rfl rfl hl.1 rfl (Nat.le_of_ble_eq_true rfl) dX9_stateOf_2 ⟨Nat.le_of_ble_eq_true rfl, Nat.le_of_ble_eq_true rfl⟩ (fun H locs hP hS => ?_)
  obtain ⟨k_2, hk_2⟩ := frc_d0 F
  refine va_getN (D := D) (ci := 6) (v := .int 99) (C := RX1) (T := TX1) (N := 20) hx hb hts iw_X9_stateOf_RX1 hown hK hP k_2 hk_2 rfl 7 (by decide) (va_Nw.use rfl (hN.1 _ nf_38)) (fun _ h9 => h9) rfl dX9_stateOf_5 ?_
  exact W.zret hx hb hr (by decide) (fun t ht hW => ⟨rfl, hS.F ht⟩) hS.2.2 dX9_stateOf_8

set_option maxRecDepth 100000 in
set_option maxHeartbeats 4000000 in
theorem c_stateOf_x1 (l : Launch) (D : va_G) (cy : Nat → ClassId) {ad : Nat → Nat} {rw_ : Nat → Nat → Option Nat} {w : va_W} (F : FrC cy ad rw_ w) (hst : l.stackTraces = false) (d : Int32) (hd : ¬ d = 0) : TH l D cy w yX9_stateOf wsX9_stateOf 7 103 [.ref (ad 0), .int d] "java/lang/IndexOutOfBoundsException" := by
  refine th_ofW (cc := cX9_stateOf) (maxL := 2) (ret := (some .char)) (lv := [(0, .ref (ad 0)), (1, .int d)]) (by decide) rfl (Nat.le_of_ble_eq_true rfl) rfl ?_
  intro p e s m below meth c ls hx hb hr hml hown hlocks hout hts hv hl
  have hown : s.vm.findClass RX9 = some m.cls := hown
  obtain ⟨⟨hP, hK, hN⟩, hT⟩ := hv
  have hS : va_S (fun _ => False) s.heap s.heap [] := va_S.rf
  refine lv_aload_n hx hb dX9_stateOf_0 rfl (lv_at hl 0 rfl) ?_
  refine lv_iload_n hx hb dX9_stateOf_1 rfl (lv_at hl 1 rfl) ?_
  obtain ⟨k_1, hk_1⟩ := frc_hub F
  exact th_callV (As := [.int d]) (rest := []) ⟨hx, hb, hml, hown, hts⟩ (c_deviceAt_ex l D cy F hst d hd) (cwV 1 hts gX9_stateOf_X9_deviceAt rfl rfl rfl (by decide +kernel) ⟨by decide, by decide⟩) hK hN hP hT hS (ci := 14) rfl hk_1 rfl rfl hl.1 rfl (Nat.le_of_ble_eq_true rfl) dX9_stateOf_2 ⟨Nat.le_of_ble_eq_true rfl, Nat.le_of_ble_eq_true rfl⟩ hout hlocks (Nat.le_refl _) (Nat.le_refl _)

theorem iw_X9_depthOf_RX1 : ∀ w ∈ u_ws RX1 TX1 20, w ∈ wsX9_depthOf := by decide +kernel
set_option maxRecDepth 100000 in
set_option maxHeartbeats 4000000 in
theorem c_depthOf_ok (l : Launch) (D : va_G) (cy : Nat → ClassId) {ad : Nat → Nat} {rw_ : Nat → Nat → Option Nat} {w : va_W} (F : FrC cy ad rw_ w) : RO l D cy w yX9_depthOf wsX9_depthOf 1 21 [.ref (ad 0), .int 0] (some (.int 0)) := by
  refine ro_ofW (cc := cX9_depthOf) (maxL := 2) (ret := (some .int)) (lv := [(0, .ref (ad 0)), (1, .int 0)]) (by decide) rfl (Nat.le_of_ble_eq_true rfl) rfl ?_
  intro p e s m below meth c ls hx hb hr hml hown hlocks hname hts hv hl
  have hown : s.vm.findClass RX9 = some m.cls := hown
  obtain ⟨hP, hK, hN⟩ := hv
  have hS : va_S (fun _ => False) s.heap s.heap [] := va_S.rf
  refine lv_aload_n hx hb dX9_depthOf_0 rfl (lv_at hl 0 rfl) ?_
  refine lv_iload_n hx hb dX9_depthOf_1 rfl (lv_at hl 1 rfl) ?_
  obtain ⟨k_1, hk_1⟩ := frc_hub F
  refine ro_callV (As := [.int 0]) (rest := []) ⟨hx, hb, hml, hown, hts⟩ (c_deviceAt_ok l D cy F) (cwV 1 hts gX9_depthOf_X9_deviceAt rfl rfl rfl (by decide +kernel) ⟨by decide, by decide⟩) hK hN hP hS (ci := 14) rfl hk_1 rfl rfl hl.1 rfl (Nat.le_of_ble_eq_true rfl) dX9_depthOf_2 ⟨Nat.le_of_ble_eq_true rfl, Nat.le_of_ble_eq_true rfl⟩ (fun H locs hP hS => ?_)
  obtain ⟨k_2, hk_2⟩ := frc_d0 F
  refine va_getN (D := D) (ci := 6) (v := .int 0) (C := RX1) (T := TX1) (N := 20) hx hb hts iw_X9_depthOf_RX1 hown hK hP k_2 hk_2 rfl 10 (by decide) (va_Nw.use rfl (hN.1 _ nf_41)) (fun _ h9 => h9) rfl dX9_depthOf_5 ?_
  exact W.iret hx hb hr (fun t ht hW => ⟨rfl, hS.F ht⟩) hS.2.2 dX9_depthOf_8

set_option maxRecDepth 100000 in
set_option maxHeartbeats 4000000 in
theorem c_depthOf_x1 (l : Launch) (D : va_G) (cy : Nat → ClassId) {ad : Nat → Nat} {rw_ : Nat → Nat → Option Nat} {w : va_W} (F : FrC cy ad rw_ w) (hst : l.stackTraces = false) (d : Int32) (hd : ¬ d = 0) : TH l D cy w yX9_depthOf wsX9_depthOf 7 103 [.ref (ad 0), .int d] "java/lang/IndexOutOfBoundsException" := by
  refine th_ofW (cc := cX9_depthOf) (maxL := 2) (ret := (some .int)) (lv := [(0, .ref (ad 0)), (1, .int d)]) (by decide) rfl (Nat.le_of_ble_eq_true rfl) rfl ?_
  intro p e s m below meth c ls hx hb hr hml hown hlocks hout hts hv hl
  have hown : s.vm.findClass RX9 = some m.cls := hown
  obtain ⟨⟨hP, hK, hN⟩, hT⟩ := hv
  have hS : va_S (fun _ => False) s.heap s.heap [] := va_S.rf
  refine lv_aload_n hx hb dX9_depthOf_0 rfl (lv_at hl 0 rfl) ?_
  refine lv_iload_n hx hb dX9_depthOf_1 rfl (lv_at hl 1 rfl) ?_
  obtain ⟨k_1, hk_1⟩ := frc_hub F
  exact th_callV (As := [.int d]) (rest := []) ⟨hx, hb, hml, hown, hts⟩ (c_deviceAt_ex l D cy F hst d hd) (cwV 1 hts gX9_depthOf_X9_deviceAt rfl rfl rfl (by decide +kernel) ⟨by decide, by decide⟩) hK hN hP hT hS (ci := 14) rfl hk_1 rfl rfl hl.1 rfl (Nat.le_of_ble_eq_true rfl) dX9_depthOf_2 ⟨Nat.le_of_ble_eq_true rfl, Nat.le_of_ble_eq_true rfl⟩ hout hlocks (Nat.le_refl _) (Nat.le_refl _)

theorem iw_X9_speedOf_RX1 : ∀ w ∈ u_ws RX1 TX1 20, w ∈ wsX9_speedOf := by decide +kernel
set_option maxRecDepth 100000 in
set_option maxHeartbeats 4000000 in
theorem c_speedOf_ok (l : Launch) (D : va_G) (cy : Nat → ClassId) {ad : Nat → Nat} {rw_ : Nat → Nat → Option Nat} {w : va_W} (F : FrC cy ad rw_ w) : RO l D cy w yX9_speedOf wsX9_speedOf 1 21 [.ref (ad 0), .int 0] (some (.int 104)) := by
  refine ro_ofW (cc := cX9_speedOf) (maxL := 2) (ret := (some .char)) (lv := [(0, .ref (ad 0)), (1, .int 0)]) (by decide) rfl (Nat.le_of_ble_eq_true rfl) rfl ?_
  intro p e s m below meth c ls hx hb hr hml hown hlocks hname hts hv hl
  have hown : s.vm.findClass RX9 = some m.cls := hown
  obtain ⟨hP, hK, hN⟩ := hv
  have hS : va_S (fun _ => False) s.heap s.heap [] := va_S.rf
  refine lv_aload_n hx hb dX9_speedOf_0 rfl (lv_at hl 0 rfl) ?_
  refine lv_iload_n hx hb dX9_speedOf_1 rfl (lv_at hl 1 rfl) ?_
  obtain ⟨k_1, hk_1⟩ := frc_hub F
  refine ro_callV (As := [.int 0]) (rest := []) ⟨hx, hb, hml, hown, hts⟩ (c_deviceAt_ok l D cy F) (cwV 1 hts gX9_speedOf_X9_deviceAt rfl rfl rfl (by decide +kernel) ⟨by decide, by decide⟩) hK hN hP hS (ci := 14) rfl hk_1 rfl rfl hl.1 rfl (Nat.le_of_ble_eq_true rfl) dX9_speedOf_2 ⟨Nat.le_of_ble_eq_true rfl, Nat.le_of_ble_eq_true rfl⟩ (fun H locs hP hS => ?_)
  obtain ⟨k_2, hk_2⟩ := frc_d0 F
  refine va_getN (D := D) (ci := 6) (v := .int 104) (C := RX1) (T := TX1) (N := 20) hx hb hts iw_X9_speedOf_RX1 hown hK hP k_2 hk_2 rfl 11 (by decide) (va_Nw.use rfl (hN.1 _ nf_42)) (fun _ h9 => h9) rfl dX9_speedOf_5 ?_
  exact W.zret hx hb hr (by decide) (fun t ht hW => ⟨rfl, hS.F ht⟩) hS.2.2 dX9_speedOf_8

set_option maxRecDepth 100000 in
set_option maxHeartbeats 4000000 in
theorem c_speedOf_x1 (l : Launch) (D : va_G) (cy : Nat → ClassId) {ad : Nat → Nat} {rw_ : Nat → Nat → Option Nat} {w : va_W} (F : FrC cy ad rw_ w) (hst : l.stackTraces = false) (d : Int32) (hd : ¬ d = 0) : TH l D cy w yX9_speedOf wsX9_speedOf 7 103 [.ref (ad 0), .int d] "java/lang/IndexOutOfBoundsException" := by
  refine th_ofW (cc := cX9_speedOf) (maxL := 2) (ret := (some .char)) (lv := [(0, .ref (ad 0)), (1, .int d)]) (by decide) rfl (Nat.le_of_ble_eq_true rfl) rfl ?_
  intro p e s m below meth c ls hx hb hr hml hown hlocks hout hts hv hl
  have hown : s.vm.findClass RX9 = some m.cls := hown
  obtain ⟨⟨hP, hK, hN⟩, hT⟩ := hv
  have hS : va_S (fun _ => False) s.heap s.heap [] := va_S.rf
  refine lv_aload_n hx hb dX9_speedOf_0 rfl (lv_at hl 0 rfl) ?_
  refine lv_iload_n hx hb dX9_speedOf_1 rfl (lv_at hl 1 rfl) ?_
  obtain ⟨k_1, hk_1⟩ := frc_hub F
  exact th_callV (As := [.int d]) (rest := []) ⟨hx, hb, hml, hown, hts⟩ (c_deviceAt_ex l D cy F hst d hd) (cwV 1 hts gX9_speedOf_X9_deviceAt rfl rfl rfl (by decide +kernel) ⟨by decide, by decide⟩) hK hN hP hT hS (ci := 14) rfl hk_1 rfl rfl hl.1 rfl (Nat.le_of_ble_eq_true rfl) dX9_speedOf_2 ⟨Nat.le_of_ble_eq_true rfl, Nat.le_of_ble_eq_true rfl⟩ hout hlocks (Nat.le_refl _) (Nat.le_refl _)

theorem iw_X9_addressOf_RX1 : ∀ w ∈ u_ws RX1 TX1 20, w ∈ wsX9_addressOf := by decide +kernel
set_option maxRecDepth 100000 in
set_option maxHeartbeats 4000000 in
theorem c_addressOf_ok (l : Launch) (D : va_G) (cy : Nat → ClassId) {ad : Nat → Nat} {rw_ : Nat → Nat → Option Nat} {w : va_W} (F : FrC cy ad rw_ w) : RO l D cy w yX9_addressOf wsX9_addressOf 1 21 [.ref (ad 0), .int 0] (some (.int 0)) := by
  refine ro_ofW (cc := cX9_addressOf) (maxL := 2) (ret := (some .int)) (lv := [(0, .ref (ad 0)), (1, .int 0)]) (by decide) rfl (Nat.le_of_ble_eq_true rfl) rfl ?_
  intro p e s m below meth c ls hx hb hr hml hown hlocks hname hts hv hl
  have hown : s.vm.findClass RX9 = some m.cls := hown
  obtain ⟨hP, hK, hN⟩ := hv
  have hS : va_S (fun _ => False) s.heap s.heap [] := va_S.rf
  refine lv_aload_n hx hb dX9_addressOf_0 rfl (lv_at hl 0 rfl) ?_
  refine lv_iload_n hx hb dX9_addressOf_1 rfl (lv_at hl 1 rfl) ?_
  obtain ⟨k_1, hk_1⟩ := frc_hub F
  refine ro_callV (As := [.int 0]) (rest := []) ⟨hx, hb, hml, hown, hts⟩ (c_deviceAt_ok l D cy F) (cwV 1 hts gX9_addressOf_X9_deviceAt rfl rfl rfl (by decide +kernel) ⟨by decide, by decide⟩) hK hN hP hS (ci := 14) rfl hk_1 rfl rfl hl.1 rfl (Nat.le_of_ble_eq_true rfl) dX9_addressOf_2 ⟨Nat.le_of_ble_eq_true rfl, Nat.le_of_ble_eq_true rfl⟩ (fun H locs hP hS => ?_)
  obtain ⟨k_2, hk_2⟩ := frc_d0 F
  refine va_getN (D := D) (ci := 6) (v := .int 0) (C := RX1) (T := TX1) (N := 20) hx hb hts iw_X9_addressOf_RX1 hown hK hP k_2 hk_2 rfl 13 (by decide) (va_Nw.use rfl (hN.1 _ nf_44)) (fun _ h9 => h9) rfl dX9_addressOf_5 ?_
  exact W.iret hx hb hr (fun t ht hW => ⟨rfl, hS.F ht⟩) hS.2.2 dX9_addressOf_8

set_option maxRecDepth 100000 in
set_option maxHeartbeats 4000000 in
theorem c_addressOf_x1 (l : Launch) (D : va_G) (cy : Nat → ClassId) {ad : Nat → Nat} {rw_ : Nat → Nat → Option Nat} {w : va_W} (F : FrC cy ad rw_ w) (hst : l.stackTraces = false) (d : Int32) (hd : ¬ d = 0) : TH l D cy w yX9_addressOf wsX9_addressOf 7 103 [.ref (ad 0), .int d] "java/lang/IndexOutOfBoundsException" := by
  refine th_ofW (cc := cX9_addressOf) (maxL := 2) (ret := (some .int)) (lv := [(0, .ref (ad 0)), (1, .int d)]) (by decide) rfl (Nat.le_of_ble_eq_true rfl) rfl ?_
  intro p e s m below meth c ls hx hb hr hml hown hlocks hout hts hv hl
  have hown : s.vm.findClass RX9 = some m.cls := hown
  obtain ⟨⟨hP, hK, hN⟩, hT⟩ := hv
  have hS : va_S (fun _ => False) s.heap s.heap [] := va_S.rf
  refine lv_aload_n hx hb dX9_addressOf_0 rfl (lv_at hl 0 rfl) ?_
  refine lv_iload_n hx hb dX9_addressOf_1 rfl (lv_at hl 1 rfl) ?_
  obtain ⟨k_1, hk_1⟩ := frc_hub F
  exact th_callV (As := [.int d]) (rest := []) ⟨hx, hb, hml, hown, hts⟩ (c_deviceAt_ex l D cy F hst d hd) (cwV 1 hts gX9_addressOf_X9_deviceAt rfl rfl rfl (by decide +kernel) ⟨by decide, by decide⟩) hK hN hP hT hS (ci := 14) rfl hk_1 rfl rfl hl.1 rfl (Nat.le_of_ble_eq_true rfl) dX9_addressOf_2 ⟨Nat.le_of_ble_eq_true rfl, Nat.le_of_ble_eq_true rfl⟩ hout hlocks (Nat.le_refl _) (Nat.le_refl _)

theorem iw_X9_driverOf_RX1 : ∀ w ∈ u_ws RX1 TX1 20, w ∈ wsX9_driverOf := by decide +kernel
set_option maxRecDepth 100000 in
set_option maxHeartbeats 4000000 in
theorem c_driverOf_ok (l : Launch) (D : va_G) (cy : Nat → ClassId) {ad : Nat → Nat} {rw_ : Nat → Nat → Option Nat} {w : va_W} (F : FrC cy ad rw_ w) : RO l D cy w yX9_driverOf wsX9_driverOf 1 21 [.ref (ad 0), .int 0] (some (.int (-1))) := by
  refine ro_ofW (cc := cX9_driverOf) (maxL := 2) (ret := (some .int)) (lv := [(0, .ref (ad 0)), (1, .int 0)]) (by decide) rfl (Nat.le_of_ble_eq_true rfl) rfl ?_
  intro p e s m below meth c ls hx hb hr hml hown hlocks hname hts hv hl
  have hown : s.vm.findClass RX9 = some m.cls := hown
  obtain ⟨hP, hK, hN⟩ := hv
  have hS : va_S (fun _ => False) s.heap s.heap [] := va_S.rf
  refine lv_aload_n hx hb dX9_driverOf_0 rfl (lv_at hl 0 rfl) ?_
  refine lv_iload_n hx hb dX9_driverOf_1 rfl (lv_at hl 1 rfl) ?_
  obtain ⟨k_1, hk_1⟩ := frc_hub F
  refine ro_callV (As := [.int 0]) (rest := []) ⟨hx, hb, hml, hown, hts⟩ (c_deviceAt_ok l D cy F) (cwV 1 hts gX9_driverOf_X9_deviceAt rfl rfl rfl (by decide +kernel) ⟨by decide, by decide⟩) hK hN hP hS (ci := 14) rfl hk_1 rfl rfl hl.1 rfl (Nat.le_of_ble_eq_true rfl) dX9_driverOf_2 ⟨Nat.le_of_ble_eq_true rfl, Nat.le_of_ble_eq_true rfl⟩ (fun H locs hP hS => ?_)
  obtain ⟨k_2, hk_2⟩ := frc_d0 F
  refine va_getN (D := D) (ci := 6) (v := .int (-1)) (C := RX1) (T := TX1) (N := 20) hx hb hts iw_X9_driverOf_RX1 hown hK hP k_2 hk_2 rfl 14 (by decide) (va_Nw.use rfl (hN.1 _ nf_45)) (fun _ h9 => h9) rfl dX9_driverOf_5 ?_
  exact W.iret hx hb hr (fun t ht hW => ⟨rfl, hS.F ht⟩) hS.2.2 dX9_driverOf_8

set_option maxRecDepth 100000 in
set_option maxHeartbeats 4000000 in
theorem c_driverOf_x1 (l : Launch) (D : va_G) (cy : Nat → ClassId) {ad : Nat → Nat} {rw_ : Nat → Nat → Option Nat} {w : va_W} (F : FrC cy ad rw_ w) (hst : l.stackTraces = false) (d : Int32) (hd : ¬ d = 0) : TH l D cy w yX9_driverOf wsX9_driverOf 7 103 [.ref (ad 0), .int d] "java/lang/IndexOutOfBoundsException" := by
  refine th_ofW (cc := cX9_driverOf) (maxL := 2) (ret := (some .int)) (lv := [(0, .ref (ad 0)), (1, .int d)]) (by decide) rfl (Nat.le_of_ble_eq_true rfl) rfl ?_
  intro p e s m below meth c ls hx hb hr hml hown hlocks hout hts hv hl
  have hown : s.vm.findClass RX9 = some m.cls := hown
  obtain ⟨⟨hP, hK, hN⟩, hT⟩ := hv
  have hS : va_S (fun _ => False) s.heap s.heap [] := va_S.rf
  refine lv_aload_n hx hb dX9_driverOf_0 rfl (lv_at hl 0 rfl) ?_
  refine lv_iload_n hx hb dX9_driverOf_1 rfl (lv_at hl 1 rfl) ?_
  obtain ⟨k_1, hk_1⟩ := frc_hub F
  exact th_callV (As := [.int d]) (rest := []) ⟨hx, hb, hml, hown, hts⟩ (c_deviceAt_ex l D cy F hst d hd) (cwV 1 hts gX9_driverOf_X9_deviceAt rfl rfl rfl (by decide +kernel) ⟨by decide, by decide⟩) hK hN hP hT hS (ci := 14) rfl hk_1 rfl rfl hl.1 rfl (Nat.le_of_ble_eq_true rfl) dX9_driverOf_2 ⟨Nat.le_of_ble_eq_true rfl, Nat.le_of_ble_eq_true rfl⟩ hout hlocks (Nat.le_refl _) (Nat.le_refl _)

theorem iw_X9_blame_RX1 : ∀ w ∈ u_ws RX1 TX1 20, w ∈ wsX9_blame := by decide +kernel
set_option maxRecDepth 100000 in
set_option maxHeartbeats 4000000 in
theorem c_blame_ok (l : Launch) (D : va_G) (cy : Nat → ClassId) {ad : Nat → Nat} {rw_ : Nat → Nat → Option Nat} {w : va_W} (F : FrC cy ad rw_ w) : RO l D cy w yX9_blame wsX9_blame 1 21 [.ref (ad 0), .int 0] (some (.int 0)) := by
  refine ro_ofW (cc := cX9_blame) (maxL := 2) (ret := (some .int)) (lv := [(0, .ref (ad 0)), (1, .int 0)]) (by decide) rfl (Nat.le_of_ble_eq_true rfl) rfl ?_
  intro p e s m below meth c ls hx hb hr hml hown hlocks hname hts hv hl
  have hown : s.vm.findClass RX9 = some m.cls := hown
  obtain ⟨hP, hK, hN⟩ := hv
  have hS : va_S (fun _ => False) s.heap s.heap [] := va_S.rf
  refine lv_aload_n hx hb dX9_blame_0 rfl (lv_at hl 0 rfl) ?_
  refine lv_iload_n hx hb dX9_blame_1 rfl (lv_at hl 1 rfl) ?_
  obtain ⟨k_1, hk_1⟩ := frc_hub F
  refine ro_callV (As := [.int 0]) (rest := []) ⟨hx, hb, hml, hown, hts⟩ (c_deviceAt_ok l D cy F) (cwV 1 hts gX9_blame_X9_deviceAt rfl rfl rfl (by decide +kernel) ⟨by decide, by decide⟩) hK hN hP hS (ci := 14) rfl hk_1 rfl rfl hl.1 rfl (Nat.le_of_ble_eq_true rfl) dX9_blame_2 ⟨Nat.le_of_ble_eq_true rfl, Nat.le_of_ble_eq_true rfl⟩ (fun H locs hP hS => ?_)
  obtain ⟨k_2, hk_2⟩ := frc_d0 F
  refine va_getN (D := D) (ci := 6) (v := .int 0) (C := RX1) (T := TX1) (N := 20) hx hb hts iw_X9_blame_RX1 hown hK hP k_2 hk_2 rfl 15 (by decide) (va_Nw.use rfl (hN.1 _ nf_46)) (fun _ h9 => h9) rfl dX9_blame_5 ?_
  exact W.iret hx hb hr (fun t ht hW => ⟨rfl, hS.F ht⟩) hS.2.2 dX9_blame_8

set_option maxRecDepth 100000 in
set_option maxHeartbeats 4000000 in
theorem c_blame_x1 (l : Launch) (D : va_G) (cy : Nat → ClassId) {ad : Nat → Nat} {rw_ : Nat → Nat → Option Nat} {w : va_W} (F : FrC cy ad rw_ w) (hst : l.stackTraces = false) (d : Int32) (hd : ¬ d = 0) : TH l D cy w yX9_blame wsX9_blame 7 103 [.ref (ad 0), .int d] "java/lang/IndexOutOfBoundsException" := by
  refine th_ofW (cc := cX9_blame) (maxL := 2) (ret := (some .int)) (lv := [(0, .ref (ad 0)), (1, .int d)]) (by decide) rfl (Nat.le_of_ble_eq_true rfl) rfl ?_
  intro p e s m below meth c ls hx hb hr hml hown hlocks hout hts hv hl
  have hown : s.vm.findClass RX9 = some m.cls := hown
  obtain ⟨⟨hP, hK, hN⟩, hT⟩ := hv
  have hS : va_S (fun _ => False) s.heap s.heap [] := va_S.rf
  refine lv_aload_n hx hb dX9_blame_0 rfl (lv_at hl 0 rfl) ?_
  refine lv_iload_n hx hb dX9_blame_1 rfl (lv_at hl 1 rfl) ?_
  obtain ⟨k_1, hk_1⟩ := frc_hub F
  exact th_callV (As := [.int d]) (rest := []) ⟨hx, hb, hml, hown, hts⟩ (c_deviceAt_ex l D cy F hst d hd) (cwV 1 hts gX9_blame_X9_deviceAt rfl rfl rfl (by decide +kernel) ⟨by decide, by decide⟩) hK hN hP hT hS (ci := 14) rfl hk_1 rfl rfl hl.1 rfl (Nat.le_of_ble_eq_true rfl) dX9_blame_2 ⟨Nat.le_of_ble_eq_true rfl, Nat.le_of_ble_eq_true rfl⟩ hout hlocks (Nat.le_refl _) (Nat.le_refl _)

theorem iw_X9_hubOf_RX1 : ∀ w ∈ u_ws RX1 TX1 20, w ∈ wsX9_hubOf := by decide +kernel
set_option maxRecDepth 100000 in
set_option maxHeartbeats 4000000 in
theorem c_hubOf_ok (l : Launch) (D : va_G) (cy : Nat → ClassId) {ad : Nat → Nat} {rw_ : Nat → Nat → Option Nat} {w : va_W} (F : FrC cy ad rw_ w) : RO l D cy w yX9_hubOf wsX9_hubOf 1 21 [.ref (ad 0), .int 0] (some (.int (-1))) := by
  refine ro_ofW (cc := cX9_hubOf) (maxL := 3) (ret := (some .int)) (lv := [(0, .ref (ad 0)), (1, .int 0)]) (by decide) rfl (Nat.le_of_ble_eq_true rfl) rfl ?_
  intro p e s m below meth c ls hx hb hr hml hown hlocks hname hts hv hl
  have hown : s.vm.findClass RX9 = some m.cls := hown
  obtain ⟨hP, hK, hN⟩ := hv
  have hS : va_S (fun _ => False) s.heap s.heap [] := va_S.rf
  refine lv_aload_n hx hb dX9_hubOf_0 rfl (lv_at hl 0 rfl) ?_
  refine lv_iload_n hx hb dX9_hubOf_1 rfl (lv_at hl 1 rfl) ?_
  obtain ⟨k_1, hk_1⟩ := frc_hub F
  refine ro_callV (As := [.int 0]) (rest := []) ⟨hx, hb, hml, hown, hts⟩ (c_deviceAt_ok l D cy F) (cwV 1 hts gX9_hubOf_X9_deviceAt rfl rfl rfl (by decide +kernel) ⟨by decide, by decide⟩) hK hN hP hS (ci := 14) rfl hk_1 rfl rfl hl.1 rfl (Nat.le_of_ble_eq_true rfl) dX9_hubOf_2 ⟨Nat.le_of_ble_eq_true rfl, Nat.le_of_ble_eq_true rfl⟩ (fun H locs hP hS => ?_)
  obtain ⟨k_2, hk_2⟩ := frc_d0 F
  refine va_getN (D := D) (ci := 6) (v := .null) (C := RX1) (T := TX1) (N := 20) hx hb hts iw_X9_hubOf_RX1 hown hK hP k_2 hk_2 rfl 8 (by decide) (va_Nw.use rfl (hN.1 _ nf_39)) (fun _ h9 => h9) rfl dX9_hubOf_5 ?_
  refine lv_astore_nN (lv' := [(2, .null), (0, .ref (ad 0)), (1, .int 0)]) hx hb dX9_hubOf_8 rfl hl (by decide) rfl (fun ls hl => ?_)
  refine lv_aload_nN hx hb dX9_hubOf_9 rfl (lv_at hl 0 rfl) ?_
  refine lv_ifnonnullN hx hb dX9_hubOf_10 ?_
  refine lv_iconst (v := (-1)) hx hb dX9_hubOf_13 (by decide) ?_
  refine lv_goto (tgt := 21) hx hb dX9_hubOf_14 (by decide) ?_
  exact W.iret hx hb hr (fun t ht hW => ⟨rfl, hS.F ht⟩) hS.2.2 dX9_hubOf_21

set_option maxRecDepth 100000 in
set_option maxHeartbeats 4000000 in
theorem c_hubOf_x1 (l : Launch) (D : va_G) (cy : Nat → ClassId) {ad : Nat → Nat} {rw_ : Nat → Nat → Option Nat} {w : va_W} (F : FrC cy ad rw_ w) (hst : l.stackTraces = false) (d : Int32) (hd : ¬ d = 0) : TH l D cy w yX9_hubOf wsX9_hubOf 7 103 [.ref (ad 0), .int d] "java/lang/IndexOutOfBoundsException" := by
  refine th_ofW (cc := cX9_hubOf) (maxL := 3) (ret := (some .int)) (lv := [(0, .ref (ad 0)), (1, .int d)]) (by decide) rfl (Nat.le_of_ble_eq_true rfl) rfl ?_
  intro p e s m below meth c ls hx hb hr hml hown hlocks hout hts hv hl
  have hown : s.vm.findClass RX9 = some m.cls := hown
  obtain ⟨⟨hP, hK, hN⟩, hT⟩ := hv
  have hS : va_S (fun _ => False) s.heap s.heap [] := va_S.rf
  refine lv_aload_n hx hb dX9_hubOf_0 rfl (lv_at hl 0 rfl) ?_
  refine lv_iload_n hx hb dX9_hubOf_1 rfl (lv_at hl 1 rfl) ?_
  obtain ⟨k_1, hk_1⟩ := frc_hub F
  exact th_callV (As := [.int d]) (rest := []) ⟨hx, hb, hml, hown, hts⟩ (c_deviceAt_ex l D cy F hst d hd) (cwV 1 hts gX9_hubOf_X9_deviceAt rfl rfl rfl (by decide +kernel) ⟨by decide, by decide⟩) hK hN hP hT hS (ci := 14) rfl hk_1 rfl rfl hl.1 rfl (Nat.le_of_ble_eq_true rfl) dX9_hubOf_2 ⟨Nat.le_of_ble_eq_true rfl, Nat.le_of_ble_eq_true rfl⟩ hout hlocks (Nat.le_refl _) (Nat.le_refl _)

set_option maxRecDepth 100000 in
set_option maxHeartbeats 4000000 in
theorem c_translator_x1 (l : Launch) (D : va_G) (cy : Nat → ClassId) {ad : Nat → Nat} {rw_ : Nat → Nat → Option Nat} {w : va_W} (F : FrC cy ad rw_ w) (hst : l.stackTraces = false) (d : Int32) (hd : ¬ d = 0) : TH l D cy w yX9_translator wsX9_translator 7 103 [.ref (ad 0), .int d] "java/lang/IndexOutOfBoundsException" := by
  refine th_ofW (cc := cX9_translator) (maxL := 3) (ret := (some .int)) (lv := [(0, .ref (ad 0)), (1, .int d)]) (by decide) rfl (Nat.le_of_ble_eq_true rfl) rfl ?_
  intro p e s m below meth c ls hx hb hr hml hown hlocks hout hts hv hl
  have hown : s.vm.findClass RX9 = some m.cls := hown
  obtain ⟨⟨hP, hK, hN⟩, hT⟩ := hv
  have hS : va_S (fun _ => False) s.heap s.heap [] := va_S.rf
  refine lv_aload_n hx hb dX9_translator_0 rfl (lv_at hl 0 rfl) ?_
  refine lv_iload_n hx hb dX9_translator_1 rfl (lv_at hl 1 rfl) ?_
  obtain ⟨k_1, hk_1⟩ := frc_hub F
  exact th_callV (As := [.int d]) (rest := []) ⟨hx, hb, hml, hown, hts⟩ (c_deviceAt_ex l D cy F hst d hd) (cwV 1 hts gX9_translator_X9_deviceAt rfl rfl rfl (by decide +kernel) ⟨by decide, by decide⟩) hK hN hP hT hS (ci := 14) rfl hk_1 rfl rfl hl.1 rfl (Nat.le_of_ble_eq_true rfl) dX9_translator_2 ⟨Nat.le_of_ble_eq_true rfl, Nat.le_of_ble_eq_true rfl⟩ hout hlocks (Nat.le_refl _) (Nat.le_refl _)

theorem iw_X9_translator_RX1 : ∀ w ∈ u_ws RX1 TX1 20, w ∈ wsX9_translator := by decide +kernel
set_option maxRecDepth 100000 in
set_option maxHeartbeats 4000000 in
theorem c_translator_x2 (l : Launch) (D : va_G) (cy : Nat → ClassId) {ad : Nat → Nat} {rw_ : Nat → Nat → Option Nat} {w : va_W} (F : FrC cy ad rw_ w) (hst : l.stackTraces = false) : TH l D cy w yX9_translator wsX9_translator 6 82 [.ref (ad 0), .int 0] "java/lang/UnsupportedOperationException" := by
  refine th_ofW (cc := cX9_translator) (maxL := 3) (ret := (some .int)) (lv := [(0, .ref (ad 0)), (1, .int 0)]) (by decide) rfl (Nat.le_of_ble_eq_true rfl) rfl ?_
  intro p e s m below meth c ls hx hb hr hml hown hlocks hout hts hv hl
  have hown : s.vm.findClass RX9 = some m.cls := hown
  obtain ⟨⟨hP, hK, hN⟩, hT⟩ := hv
  have hS : va_S (fun _ => False) s.heap s.heap [] := va_S.rf
  refine lv_aload_n hx hb dX9_translator_0 rfl (lv_at hl 0 rfl) ?_
  refine lv_iload_n hx hb dX9_translator_1 rfl (lv_at hl 1 rfl) ?_
  obtain ⟨k_1, hk_1⟩ := frc_hub F
  refine ro_callV (As := [.int 0]) (rest := []) ⟨hx, hb, hml, hown, hts⟩ (c_deviceAt_ok l D cy F) (cwV 1 hts gX9_translator_X9_deviceAt rfl rfl rfl (by decide +kernel) ⟨by decide, by decide⟩) hK hN hP hS (ci := 14) rfl hk_1 rfl rfl hl.1 rfl (Nat.le_of_ble_eq_true rfl) dX9_translator_2 ⟨Nat.le_of_ble_eq_true rfl, Nat.le_of_ble_eq_true rfl⟩ (fun H locs hP hS => ?_)
  refine lv_astore_n (lv' := [(2, .ref (ad 100)), (0, .ref (ad 0)), (1, .int 0)]) hx hb dX9_translator_5 rfl hl (by decide) rfl (fun ls hl => ?_)
  refine lv_aload_n hx hb dX9_translator_6 rfl (lv_at hl 0 rfl) ?_
  obtain ⟨k_2, hk_2⟩ := frc_d0 F
  refine va_getN (D := D) (ci := 6) (v := .null) (C := RX1) (T := TX1) (N := 20) hx hb hts iw_X9_translator_RX1 hown hK hP k_2 hk_2 rfl 8 (by decide) (va_Nw.use rfl (hN.1 _ nf_39)) (fun _ h9 => h9) rfl dX9_translator_7 ?_
  refine lv_ifnonnullN hx hb dX9_translator_10 ?_
  exact th_throwS (text := "it is in no hub") (WS := wsX9_translator) hx hb hst hts hown (by decide +kernel) hT (by decide +kernel) (by decide +kernel) (by decide +kernel) (by decide +kernel) (by decide +kernel) (by decide +kernel) (by decide +kernel) hS (hl.1.trans hml.symm) dX9_translator_13 dX9_translator_16 dX9_translator_17 dX9_translator_19 dX9_translator_22 hout hlocks (by decide) (by decide) (Nat.le_refl _) (Nat.le_refl _) (Nat.le_refl _) (Nat.le_refl _)

set_option maxRecDepth 100000 in
set_option maxHeartbeats 4000000 in
theorem c_deviceBelowHost_ex (l : Launch) (D : va_G) (cy : Nat → ClassId) {ad : Nat → Nat} {rw_ : Nat → Nat → Option Nat} {w : va_W} (F : FrC cy ad rw_ w) (hst : l.stackTraces = false) (d : Int32) : TH l D cy w yX9_deviceBelowHost wsX9_deviceBelowHost 7 103 [.ref (ad 0), .int d] "java/lang/IndexOutOfBoundsException" := by
  refine th_ofW (cc := cX9_deviceBelowHost) (maxL := 2) (ret := (some (.object "Hubcascade$Device"))) (lv := [(0, .ref (ad 0)), (1, .int d)]) (by decide) rfl (Nat.le_of_ble_eq_true rfl) rfl ?_
  intro p e s m below meth c ls hx hb hr hml hown hlocks hout hts hv hl
  have hown : s.vm.findClass RX9 = some m.cls := hown
  obtain ⟨⟨hP, hK, hN⟩, hT⟩ := hv
  have hS : va_S (fun _ => False) s.heap s.heap [] := va_S.rf
  refine lv_iload_n hx hb dX9_deviceBelowHost_0 rfl (lv_at hl 1 rfl) ?_
  refine lv_if_ne (tgt := 15) hx hb dX9_deviceBelowHost_1 (by decide) (fun c1 => ?_) (fun c1 => ?_)
  · refine lv_aload_n hx hb dX9_deviceBelowHost_15 rfl (lv_at hl 0 rfl) ?_
    refine lv_iload_n hx hb dX9_deviceBelowHost_16 rfl (lv_at hl 1 rfl) ?_
    obtain ⟨k_1, hk_1⟩ := frc_hub F
    exact th_callV (As := [.int d]) (rest := []) ⟨hx, hb, hml, hown, hts⟩ (c_deviceAt_ex l D cy F hst d c1) (cwV 1 hts gX9_deviceBelowHost_X9_deviceAt rfl rfl rfl (by decide +kernel) ⟨by decide, by decide⟩) hK hN hP hT hS (ci := 14) rfl hk_1 rfl rfl hl.1 rfl (Nat.le_of_ble_eq_true rfl) dX9_deviceBelowHost_17 ⟨Nat.le_of_ble_eq_true rfl, Nat.le_of_ble_eq_true rfl⟩ hout hlocks (Nat.le_refl _) (Nat.le_refl _)
  · exact th_throwSW (text := "not for the host's hub") (WS := wsX9_deviceBelowHost) hx hb hst hts hown (by decide +kernel) hT (by decide +kernel) (by decide +kernel) (by decide +kernel) (by decide +kernel) (by decide +kernel) (by decide +kernel) (by decide +kernel) hS (hl.1.trans hml.symm) dX9_deviceBelowHost_4 dX9_deviceBelowHost_7 dX9_deviceBelowHost_8 dX9_deviceBelowHost_11 dX9_deviceBelowHost_14 hout hlocks (by decide) (by decide) (Nat.le_refl _) (Nat.le_refl _) (Nat.le_refl _) (Nat.le_refl _)

theorem iw_X5_isOpen_RX5 : ∀ w ∈ u_ws RX5 TX5 14, w ∈ wsX5_isOpen := by decide +kernel
set_option maxRecDepth 100000 in
set_option maxHeartbeats 4000000 in
theorem c_isOpen (l : Launch) (D : va_G) (cy : Nat → ClassId) {ad : Nat → Nat} {rw_ : Nat → Nat → Option Nat} {w : va_W} (F : FrC cy ad rw_ w) (j : Nat) (hj : j < 12) : RO l D cy w yX5_isOpen wsX5_isOpen 0 0 [.ref (ad (600 + j))] (some (.int 0)) := by
  refine ro_ofW (cc := cX5_isOpen) (maxL := 1) (ret := (some .boolean)) (lv := [(0, .ref (ad (600 + j)))]) (by decide) rfl (Nat.le_of_ble_eq_true rfl) rfl ?_
  intro p e s m below meth c ls hx hb hr hml hown hlocks hname hts hv hl
  have hown : s.vm.findClass RX5 = some m.cls := hown
  obtain ⟨hP, hK, hN⟩ := hv
  have hS : va_S (fun _ => False) s.heap s.heap [] := va_S.rf
  refine lv_aload_n hx hb dX5_isOpen_0 rfl (lv_at hl 0 rfl) ?_
  obtain ⟨k_1, hk_1⟩ := frc_pi F j hj
  refine va_get (D := D) (ci := 10) (v := .null) (C := RX5) (T := TX5) (N := 14) hx hb hts iw_X5_isOpen_RX5 hown hK hP k_1 hk_1 rfl 1 (by decide) (hts (.fieldLink RX5 35 "Hubcascade$Pipe" "device" "LHubcascade$Device;") (by decide +kernel)) (fun _ h9 => h9) rfl dX5_isOpen_1 ?_
  refine lv_ifnullN (tgt := 11) hx hb dX5_isOpen_4 (by decide) ?_
  refine lv_iconst (v := 0) hx hb dX5_isOpen_11 (by decide) ?_
  exact W.zret hx hb hr (by decide) (fun t ht hW => ⟨rfl, hS.F ht⟩) hS.2.2 dX5_isOpen_12

theorem iw_X9_endpointAt_RX1 : ∀ w ∈ u_ws RX1 TX1 20, w ∈ wsX9_endpointAt := by decide +kernel
theorem iw_X9_endpointAt_RX2 : ∀ w ∈ u_ws RX2 TX2 9, w ∈ wsX9_endpointAt := by decide +kernel
set_option maxRecDepth 100000 in
set_option maxHeartbeats 4000000 in
theorem c_endpointAt_ex (l : Launch) (D : va_G) (cy : Nat → ClassId) {ad : Nat → Nat} {rw_ : Nat → Nat → Option Nat} {w : va_W} (F : FrC cy ad rw_ w) (hst : l.stackTraces = false) (n : Int32) : TH l D cy w yX9_endpointAt wsX9_endpointAt 6 82 [.ref (ad 100), .int n] "java/lang/IndexOutOfBoundsException" := by
  refine th_ofW (cc := cX9_endpointAt) (maxL := 2) (ret := (some (.object "Hubcascade$Endpoint"))) (lv := [(0, .ref (ad 100)), (1, .int n)]) (by decide) rfl (Nat.le_of_ble_eq_true rfl) rfl ?_
  intro p e s m below meth c ls hx hb hr hml hown hlocks hout hts hv hl
  have hown : s.vm.findClass RX9 = some m.cls := hown
  obtain ⟨⟨hP, hK, hN⟩, hT⟩ := hv
  have hS : va_S (fun _ => False) s.heap s.heap [] := va_S.rf
  refine lv_iload_n hx hb dX9_endpointAt_0 rfl (lv_at hl 1 rfl) ?_
  refine lv_iconst (v := 1) hx hb dX9_endpointAt_1 (by decide) ?_
  refine lv_iconst (v := 3) hx hb dX9_endpointAt_2 (by decide) ?_
  by_cases hw : (¬ n < 1 ∧ ¬ 3 < n)
  · obtain ⟨j, hj, rfl⟩ := my_r13 hw
    refine ro_callS (As := [.int (nI (j + 1)), .int 1, .int 3]) (rest := []) ⟨hx, hb, hml, hown, hts⟩ (c_isWithin_t l D cy w _ _ _ hw.1 hw.2) (va_cwS 3 hts gX9_endpointAt_X9_isWithin rfl rfl rfl (by decide +kernel) ⟨by decide, by decide⟩) hK hN hP hS rfl hl.1 rfl (Nat.le_of_ble_eq_true rfl) dX9_endpointAt_3 ⟨Nat.le_of_ble_eq_true rfl, Nat.le_of_ble_eq_true rfl⟩ (fun H locs hP hS => ?_)
    refine lv_if_eq (tgt := 23) hx hb dX9_endpointAt_6 (by decide) (fun c => absurd c (by decide)) (fun _ => ?_)
    refine lv_aload_n hx hb dX9_endpointAt_9 rfl (lv_at hl 0 rfl) ?_
    obtain ⟨k_1, hk_1⟩ := frc_d0 F
    refine va_getN (D := D) (ci := 6) (v := .ref (ad (140 + 0))) (C := RX1) (T := TX1) (N := 20) hx hb hts iw_X9_endpointAt_RX1 hown hK hP k_1 hk_1 rfl 19 (by decide) (va_Nw.use rfl (hN.1 _ nf_50)) (fun _ h9 => h9) rfl dX9_endpointAt_10 ?_
    refine lv_iload_n hx hb dX9_endpointAt_13 rfl (lv_at hl 1 rfl) ?_
    refine lv_iconst (v := 1) hx hb dX9_endpointAt_14 (by decide) ?_
    refine lv_isub hx hb dX9_endpointAt_15 ?_
    refine lv_topi (fun y ey => ?_)
    obtain rfl : y = nI j := ey.trans (nI_pred j)
    obtain ⟨k_2, hk_2⟩ := frc_ei F 0 (by decide)
    refine my_ald hx hb hK hP k_2 5 hk_2 rfl (i := nI j) (j := j) (r := ad (200 + 4 * 0 + j)) rfl hj (by decide) (frc_eir F 0 j (by decide) hj) dX9_endpointAt_16 ?_
    obtain ⟨k_3, hk_3⟩ := frc_ep F 0 j (by decide) hj
    refine va_getN (D := D) (ci := 7) (v := .int 0) (C := RX2) (T := TX2) (N := 9) hx hb hts iw_X9_endpointAt_RX2 hown hK hP k_3 hk_3 rfl 0 (by decide) (va_Nw.use rfl (hN.1 _ nf_19)) (fun _ h9 => h9) rfl dX9_endpointAt_17 ?_
    refine lv_if_ne (tgt := 34) hx hb dX9_endpointAt_20 (by decide) (fun c => absurd (by decide) c) (fun _ => ?_)
    exact th_throwSW (text := "no such endpoint") (WS := wsX9_endpointAt) hx hb hst hts hown (by decide +kernel) hT (by decide +kernel) (by decide +kernel) (by decide +kernel) (by decide +kernel) (by decide +kernel) (by decide +kernel) (by decide +kernel) hS (hl.1.trans hml.symm) dX9_endpointAt_23 dX9_endpointAt_26 dX9_endpointAt_27 dX9_endpointAt_30 dX9_endpointAt_33 hout hlocks (by decide) (by decide) (Nat.le_refl _) (Nat.le_refl _) (Nat.le_refl _) (Nat.le_refl _)
  · refine ro_callS (As := [.int n, .int 1, .int 3]) (rest := []) ⟨hx, hb, hml, hown, hts⟩ (c_isWithin_f l D cy w _ _ _ (my_out hw)) (va_cwS 3 hts gX9_endpointAt_X9_isWithin rfl rfl rfl (by decide +kernel) ⟨by decide, by decide⟩) hK hN hP hS rfl hl.1 rfl (Nat.le_of_ble_eq_true rfl) dX9_endpointAt_3 ⟨Nat.le_of_ble_eq_true rfl, Nat.le_of_ble_eq_true rfl⟩ (fun H locs hP hS => ?_)
    refine lv_if_eq (tgt := 23) hx hb dX9_endpointAt_6 (by decide) (fun _ => ?_) (fun c => absurd (by decide) c)
    exact th_throwSW (text := "no such endpoint") (WS := wsX9_endpointAt) hx hb hst hts hown (by decide +kernel) hT (by decide +kernel) (by decide +kernel) (by decide +kernel) (by decide +kernel) (by decide +kernel) (by decide +kernel) (by decide +kernel) hS (hl.1.trans hml.symm) dX9_endpointAt_23 dX9_endpointAt_26 dX9_endpointAt_27 dX9_endpointAt_30 dX9_endpointAt_33 hout hlocks (by decide) (by decide) (Nat.le_refl _) (Nat.le_refl _) (Nat.le_refl _) (Nat.le_refl _)

theorem iw_X9_openPipe_RX9 : ∀ w ∈ u_ws RX9 TX9 13, w ∈ wsX9_openPipe := by decide +kernel
set_option maxRecDepth 100000 in
set_option maxHeartbeats 4000000 in
theorem c_openPipe_ex (l : Launch) (D : va_G) (cy : Nat → ClassId) {ad : Nat → Nat} {rw_ : Nat → Nat → Option Nat} {w : va_W} (F : FrC cy ad rw_ w) (hst : l.stackTraces = false) (n : Int32) : TH l D cy w yX9_openPipe wsX9_openPipe 6 82 [.ref (ad 0), .int n] "java/util/NoSuchElementException" := by
  refine th_ofW (cc := cX9_openPipe) (maxL := 2) (ret := (some (.object "Hubcascade$Pipe"))) (lv := [(0, .ref (ad 0)), (1, .int n)]) (by decide) rfl (Nat.le_of_ble_eq_true rfl) rfl ?_
  intro p e s m below meth c ls hx hb hr hml hown hlocks hout hts hv hl
  have hown : s.vm.findClass RX9 = some m.cls := hown
  obtain ⟨⟨hP, hK, hN⟩, hT⟩ := hv
  have hS : va_S (fun _ => False) s.heap s.heap [] := va_S.rf
  refine lv_iload_n hx hb dX9_openPipe_0 rfl (lv_at hl 1 rfl) ?_
  refine lv_iconst (v := 0) hx hb dX9_openPipe_1 (by decide) ?_
  refine lv_bipush (v := 11) hx hb dX9_openPipe_2 (by decide) ?_
  by_cases hw : (¬ n < 0 ∧ ¬ 11 < n)
  · obtain ⟨j, hj, rfl⟩ := my_r011 hw
    refine ro_callS (As := [.int (nI j), .int 0, .int 11]) (rest := []) ⟨hx, hb, hml, hown, hts⟩ (c_isWithin_t l D cy w _ _ _ hw.1 hw.2) (va_cwS 3 hts gX9_openPipe_X9_isWithin rfl rfl rfl (by decide +kernel) ⟨by decide, by decide⟩) hK hN hP hS rfl hl.1 rfl (Nat.le_of_ble_eq_true rfl) dX9_openPipe_4 ⟨Nat.le_of_ble_eq_true rfl, Nat.le_of_ble_eq_true rfl⟩ (fun H locs hP hS => ?_)
    refine lv_if_eq (tgt := 22) hx hb dX9_openPipe_7 (by decide) (fun c => absurd c (by decide)) (fun _ => ?_)
    refine lv_aload_n hx hb dX9_openPipe_10 rfl (lv_at hl 0 rfl) ?_
    obtain ⟨k_1, hk_1⟩ := frc_hub F
    refine va_get (D := D) (ci := 14) (v := .ref (ad 4)) (C := RX9) (T := TX9) (N := 13) hx hb hts iw_X9_openPipe_RX9 hown hK hP k_1 hk_1 rfl 5 (by decide) (hts (.fieldLink RX9 24 "Hubcascade" "pipes" "[LHubcascade$Pipe;") (by decide +kernel)) (fun _ h9 => h9) rfl dX9_openPipe_11 ?_
    refine lv_iload_n hx hb dX9_openPipe_14 rfl (lv_at hl 1 rfl) ?_
    obtain ⟨k_2, hk_2⟩ := frc_pv F
    refine my_ald hx hb hK hP k_2 6 hk_2 rfl (i := nI j) (j := j) (r := ad (600 + j)) rfl hj (by decide) (frc_pvr F j hj) dX9_openPipe_15 ?_
    obtain ⟨k_3, hk_3⟩ := frc_pi F j hj
    refine ro_callVN (As := []) (rest := []) ⟨hx, hb, hml, hown, hts⟩ (c_isOpen l D cy F j hj) ⟨va_cnB 0 hts gX9_openPipe_X5_isOpen_n536 rfl rfl rfl (hN.1 _ nf_144) (hts (.initialized RX5) (by decide +kernel)) (by decide +kernel) ⟨by decide, by decide⟩, hts (.instanceMethod yX5_isOpen) (by decide +kernel), hts (.selects RX5 yX5_isOpen yX5_isOpen) (by decide +kernel)⟩ hK hN hP hS (ci := 10) rfl hk_3 rfl rfl hl.1 rfl (Nat.le_of_ble_eq_true rfl) dX9_openPipe_16 ⟨Nat.le_of_ble_eq_true rfl, Nat.le_of_ble_eq_true rfl⟩ (fun H locs hP hS => ?_)
    refine lv_if_ne (tgt := 33) hx hb dX9_openPipe_19 (by decide) (fun c => absurd (by decide) c) (fun _ => ?_)
    exact th_throwNW (text := "no such pipe is open") (WS := wsX9_openPipe) hx hb hst hts hown (by decide +kernel) hT (by decide +kernel) (by decide +kernel) (by decide +kernel) (by decide +kernel) (by decide +kernel) (by decide +kernel) (by decide +kernel) hS (hl.1.trans hml.symm) dX9_openPipe_22 dX9_openPipe_25 dX9_openPipe_26 dX9_openPipe_29 dX9_openPipe_32 hout hlocks (by decide) (by decide) (Nat.le_refl _) (Nat.le_refl _) (Nat.le_refl _) (Nat.le_refl _)
  · refine ro_callS (As := [.int n, .int 0, .int 11]) (rest := []) ⟨hx, hb, hml, hown, hts⟩ (c_isWithin_f l D cy w _ _ _ (my_out hw)) (va_cwS 3 hts gX9_openPipe_X9_isWithin rfl rfl rfl (by decide +kernel) ⟨by decide, by decide⟩) hK hN hP hS rfl hl.1 rfl (Nat.le_of_ble_eq_true rfl) dX9_openPipe_4 ⟨Nat.le_of_ble_eq_true rfl, Nat.le_of_ble_eq_true rfl⟩ (fun H locs hP hS => ?_)
    refine lv_if_eq (tgt := 22) hx hb dX9_openPipe_7 (by decide) (fun _ => ?_) (fun c => absurd (by decide) c)
    exact th_throwNW (text := "no such pipe is open") (WS := wsX9_openPipe) hx hb hst hts hown (by decide +kernel) hT (by decide +kernel) (by decide +kernel) (by decide +kernel) (by decide +kernel) (by decide +kernel) (by decide +kernel) (by decide +kernel) hS (hl.1.trans hml.symm) dX9_openPipe_22 dX9_openPipe_25 dX9_openPipe_26 dX9_openPipe_29 dX9_openPipe_32 hout hlocks (by decide) (by decide) (Nat.le_refl _) (Nat.le_refl _) (Nat.le_refl _) (Nat.le_refl _)

theorem iw_X9_newest_RX0 : ∀ w ∈ u_ws RX0 TX0 4, w ∈ wsX9_newest := by decide +kernel
set_option maxRecDepth 100000 in
set_option maxHeartbeats 4000000 in
theorem c_newest_ex (l : Launch) (D : va_G) (cy : Nat → ClassId) {ad : Nat → Nat} {rw_ : Nat → Nat → Option Nat} {w : va_W} (F : FrC cy ad rw_ w) (hst : l.stackTraces = false) (n : Int32) : TH l D cy w yX9_newest wsX9_newest 6 82 [.ref (ad 7), .int n] "java/util/NoSuchElementException" := by
  refine th_ofW (cc := cX9_newest) (maxL := 2) (ret := (some .int)) (lv := [(0, .ref (ad 7)), (1, .int n)]) (by decide) rfl (Nat.le_of_ble_eq_true rfl) rfl ?_
  intro p e s m below meth c ls hx hb hr hml hown hlocks hout hts hv hl
  have hown : s.vm.findClass RX9 = some m.cls := hown
  obtain ⟨⟨hP, hK, hN⟩, hT⟩ := hv
  have hS : va_S (fun _ => False) s.heap s.heap [] := va_S.rf
  refine lv_iload_n hx hb dX9_newest_0 rfl (lv_at hl 1 rfl) ?_
  refine lv_if_lt (tgt := 12) hx hb dX9_newest_1 (by decide) (fun c1 => ?_) (fun c1 => ?_)
  · exact th_throwNW (text := "no such byte is kept") (WS := wsX9_newest) hx hb hst hts hown (by decide +kernel) hT (by decide +kernel) (by decide +kernel) (by decide +kernel) (by decide +kernel) (by decide +kernel) (by decide +kernel) (by decide +kernel) hS (hl.1.trans hml.symm) dX9_newest_12 dX9_newest_15 dX9_newest_16 dX9_newest_19 dX9_newest_22 hout hlocks (by decide) (by decide) (Nat.le_refl _) (Nat.le_refl _) (Nat.le_refl _) (Nat.le_refl _)
  · refine lv_iload_n hx hb dX9_newest_4 rfl (lv_at hl 1 rfl) ?_
    refine lv_aload_n hx hb dX9_newest_5 rfl (lv_at hl 0 rfl) ?_
    obtain ⟨k_1, hk_1⟩ := frc_re F
    refine va_getN (D := D) (ci := 5) (v := .int 0) (C := RX0) (T := TX0) (N := 4) hx hb hts iw_X9_newest_RX0 hown hK hP k_1 hk_1 rfl 2 (by decide) (va_Nw.use rfl (hN.1 _ nf_0)) (fun _ h9 => h9) rfl dX9_newest_6 ?_
    refine lv_icmp_lt (tgt := 23) hx hb dX9_newest_9 (by decide) (fun c => absurd c c1) (fun _ => ?_)
    exact th_throwNW (text := "no such byte is kept") (WS := wsX9_newest) hx hb hst hts hown (by decide +kernel) hT (by decide +kernel) (by decide +kernel) (by decide +kernel) (by decide +kernel) (by decide +kernel) (by decide +kernel) (by decide +kernel) hS (hl.1.trans hml.symm) dX9_newest_12 dX9_newest_15 dX9_newest_16 dX9_newest_19 dX9_newest_22 hout hlocks (by decide) (by decide) (Nat.le_refl _) (Nat.le_refl _) (Nat.le_refl _) (Nat.le_refl _)

set_option maxRecDepth 100000 in
set_option maxHeartbeats 4000000 in
theorem c_endpointOut_ex (l : Launch) (D : va_G) (cy : Nat → ClassId) {ad : Nat → Nat} {rw_ : Nat → Nat → Option Nat} {w : va_W} (F : FrC cy ad rw_ w) (hst : l.stackTraces = false) (d n : Int32) : TH l D cy w yX9_endpointOut wsX9_endpointOut 7 103 [.ref (ad 0), .int d, .int n] "java/lang/IndexOutOfBoundsException" := by
  refine th_ofW (cc := cX9_endpointOut) (maxL := 4) (ret := (some (.object "Hubcascade$Endpoint"))) (lv := [(0, .ref (ad 0)), (1, .int d), (2, .int n)]) (by decide) rfl (Nat.le_of_ble_eq_true rfl) rfl ?_
  intro p e s m below meth c ls hx hb hr hml hown hlocks hout hts hv hl
  have hown : s.vm.findClass RX9 = some m.cls := hown
  obtain ⟨⟨hP, hK, hN⟩, hT⟩ := hv
  have hS : va_S (fun _ => False) s.heap s.heap [] := va_S.rf
  refine lv_aload_n hx hb dX9_endpointOut_0 rfl (lv_at hl 0 rfl) ?_
  refine lv_iload_n hx hb dX9_endpointOut_1 rfl (lv_at hl 1 rfl) ?_
  by_cases hd : d = 0
  · subst hd
    obtain ⟨k_1, hk_1⟩ := frc_hub F
    refine ro_callV (As := [.int 0]) (rest := []) ⟨hx, hb, hml, hown, hts⟩ (c_deviceAt_ok l D cy F) (cwV 1 hts gX9_endpointOut_X9_deviceAt rfl rfl rfl (by decide +kernel) ⟨by decide, by decide⟩) hK hN hP hS (ci := 14) rfl hk_1 rfl rfl hl.1 rfl (Nat.le_of_ble_eq_true rfl) dX9_endpointOut_2 ⟨Nat.le_of_ble_eq_true rfl, Nat.le_of_ble_eq_true rfl⟩ (fun H locs hP hS => ?_)
    refine lv_iload_n hx hb dX9_endpointOut_5 rfl (lv_at hl 2 rfl) ?_
    exact th_callS (As := [.ref (ad 100), .int n]) (rest := []) ⟨hx, hb, hml, hown, hts⟩ (c_endpointAt_ex l D cy F hst n) (va_cwS 2 hts gX9_endpointOut_X9_endpointAt rfl rfl rfl (by decide +kernel) ⟨by decide, by decide⟩) hK hN hP hT hS rfl hl.1 rfl (Nat.le_of_ble_eq_true rfl) dX9_endpointOut_6 ⟨Nat.le_of_ble_eq_true rfl, Nat.le_of_ble_eq_true rfl⟩ hout hlocks (Nat.le_refl _) (Nat.le_refl _)
  · obtain ⟨k_2, hk_2⟩ := frc_hub F
    exact th_callV (As := [.int d]) (rest := []) ⟨hx, hb, hml, hown, hts⟩ (c_deviceAt_ex l D cy F hst d hd) (cwV 1 hts gX9_endpointOut_X9_deviceAt rfl rfl rfl (by decide +kernel) ⟨by decide, by decide⟩) hK hN hP hT hS (ci := 14) rfl hk_2 rfl rfl hl.1 rfl (Nat.le_of_ble_eq_true rfl) dX9_endpointOut_2 ⟨Nat.le_of_ble_eq_true rfl, Nat.le_of_ble_eq_true rfl⟩ hout hlocks (Nat.le_refl _) (Nat.le_refl _)
