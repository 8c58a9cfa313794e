set_option maxRecDepth 100000 in
set_option maxHeartbeats 4000000 in
theorem c_unplug_x1 (l : Launch) (D : va_G) (cy : Nat → ClassId) {ad : Nat → Nat} {rw_ : Nat → Nat → Option Nat} {w : va_W} (F : FrC cy ad rw_ w) (hst : l.stackTraces = false) (d : Int32) : TH l D cy w yX9_unplug wsX9_unplug 8 124 [.ref (ad 0), .int d] "java/lang/IndexOutOfBoundsException" := by
  refine th_ofW (cc := cX9_unplug) (maxL := 3) (ret := (some .int)) (lv := [(0, .ref (ad 0)), (1, .int d)]) (by decide) rfl (Nat.le_of_ble_eq_true rfl) rfl ?_
  intro p e s m below meth c ls hx hb hr hml hown hlocks hout hts hv hl
  have hown : s.vm.findClass RX9 = some m.cls := hown
  obtain ⟨⟨hP, hK, hN⟩, hT⟩ := hv
  have hS : va_S (fun _ => False) s.heap s.heap [] := va_S.rf
  refine lv_aload_n hx hb dX9_unplug_0 rfl (lv_at hl 0 rfl) ?_
  refine lv_iload_n hx hb dX9_unplug_1 rfl (lv_at hl 1 rfl) ?_
  obtain ⟨k_1, hk_1⟩ := frc_hub F
  exact th_callV (As := [.int d]) (rest := []) ⟨hx, hb, hml, hown, hts⟩ (c_deviceBelowHost_ex l D cy F hst d) (cwV 1 hts gX9_unplug_X9_deviceBelowHost rfl rfl rfl (by decide +kernel) ⟨by decide, by decide⟩) hK hN hP hT hS (ci := 14) rfl hk_1 rfl rfl hl.1 rfl (Nat.le_of_ble_eq_true rfl) dX9_unplug_2 ⟨Nat.le_of_ble_eq_true rfl, Nat.le_of_ble_eq_true rfl⟩ hout hlocks (Nat.le_refl _) (Nat.le_refl _)

set_option maxRecDepth 100000 in
set_option maxHeartbeats 4000000 in
theorem c_draw_x1 (l : Launch) (D : va_G) (cy : Nat → ClassId) {ad : Nat → Nat} {rw_ : Nat → Nat → Option Nat} {w : va_W} (F : FrC cy ad rw_ w) (hst : l.stackTraces = false) (d n : Int32) : TH l D cy w yX9_draw wsX9_draw 8 124 [.ref (ad 0), .int d, .int n] "java/lang/IndexOutOfBoundsException" := by
  refine th_ofW (cc := cX9_draw) (maxL := 5) (ret := (some .int)) (lv := [(0, .ref (ad 0)), (1, .int d), (2, .int n)]) (by decide) rfl (Nat.le_of_ble_eq_true rfl) rfl ?_
  intro p e s m below meth c ls hx hb hr hml hown hlocks hout hts hv hl
  have hown : s.vm.findClass RX9 = some m.cls := hown
  obtain ⟨⟨hP, hK, hN⟩, hT⟩ := hv
  have hS : va_S (fun _ => False) s.heap s.heap [] := va_S.rf
  refine lv_aload_n hx hb dX9_draw_0 rfl (lv_at hl 0 rfl) ?_
  refine lv_iload_n hx hb dX9_draw_1 rfl (lv_at hl 1 rfl) ?_
  obtain ⟨k_1, hk_1⟩ := frc_hub F
  exact th_callV (As := [.int d]) (rest := []) ⟨hx, hb, hml, hown, hts⟩ (c_deviceBelowHost_ex l D cy F hst d) (cwV 1 hts gX9_draw_X9_deviceBelowHost rfl rfl rfl (by decide +kernel) ⟨by decide, by decide⟩) hK hN hP hT hS (ci := 14) rfl hk_1 rfl rfl hl.1 rfl (Nat.le_of_ble_eq_true rfl) dX9_draw_2 ⟨Nat.le_of_ble_eq_true rfl, Nat.le_of_ble_eq_true rfl⟩ hout hlocks (Nat.le_refl _) (Nat.le_refl _)

set_option maxRecDepth 100000 in
set_option maxHeartbeats 4000000 in
theorem c_sleep_x1 (l : Launch) (D : va_G) (cy : Nat → ClassId) {ad : Nat → Nat} {rw_ : Nat → Nat → Option Nat} {w : va_W} (F : FrC cy ad rw_ w) (hst : l.stackTraces = false) (d : Int32) : TH l D cy w yX9_sleep wsX9_sleep 8 124 [.ref (ad 0), .int d] "java/lang/IndexOutOfBoundsException" := by
  refine th_ofW (cc := cX9_sleep) (maxL := 6) (ret := (some .int)) (lv := [(0, .ref (ad 0)), (1, .int d)]) (by decide) rfl (Nat.le_of_ble_eq_true rfl) rfl ?_
  intro p e s m below meth c ls hx hb hr hml hown hlocks hout hts hv hl
  have hown : s.vm.findClass RX9 = some m.cls := hown
  obtain ⟨⟨hP, hK, hN⟩, hT⟩ := hv
  have hS : va_S (fun _ => False) s.heap s.heap [] := va_S.rf
  refine lv_aload_n hx hb dX9_sleep_0 rfl (lv_at hl 0 rfl) ?_
  refine lv_iload_n hx hb dX9_sleep_1 rfl (lv_at hl 1 rfl) ?_
  obtain ⟨k_1, hk_1⟩ := frc_hub F
  exact th_callV (As := [.int d]) (rest := []) ⟨hx, hb, hml, hown, hts⟩ (c_deviceBelowHost_ex l D cy F hst d) (cwV 1 hts gX9_sleep_X9_deviceBelowHost rfl rfl rfl (by decide +kernel) ⟨by decide, by decide⟩) hK hN hP hT hS (ci := 14) rfl hk_1 rfl rfl hl.1 rfl (Nat.le_of_ble_eq_true rfl) dX9_sleep_2 ⟨Nat.le_of_ble_eq_true rfl, Nat.le_of_ble_eq_true rfl⟩ hout hlocks (Nat.le_refl _) (Nat.le_refl _)

set_option maxRecDepth 100000 in
set_option maxHeartbeats 4000000 in
theorem c_fault_x1 (l : Launch) (D : va_G) (cy : Nat → ClassId) {ad : Nat → Nat} {rw_ : Nat → Nat → Option Nat} {w : va_W} (F : FrC cy ad rw_ w) (hst : l.stackTraces = false) (d n q z : Int32) : TH l D cy w yX9_fault wsX9_fault 8 124 [.ref (ad 0), .int d, .int n, .int q, .int z] "java/lang/IndexOutOfBoundsException" := by
  refine th_ofW (cc := cX9_fault) (maxL := 8) (ret := (some .int)) (lv := [(0, .ref (ad 0)), (1, .int d), (2, .int n), (3, .int q), (4, .int z)]) (by decide) rfl (Nat.le_of_ble_eq_true rfl) rfl ?_
  intro p e s m below meth c ls hx hb hr hml hown hlocks hout hts hv hl
  have hown : s.vm.findClass RX9 = some m.cls := hown
  obtain ⟨⟨hP, hK, hN⟩, hT⟩ := hv
  have hS : va_S (fun _ => False) s.heap s.heap [] := va_S.rf
  refine lv_aload_n hx hb dX9_fault_0 rfl (lv_at hl 0 rfl) ?_
  refine lv_iload_n hx hb dX9_fault_1 rfl (lv_at hl 1 rfl) ?_
  obtain ⟨k_1, hk_1⟩ := frc_hub F
  exact th_callV (As := [.int d]) (rest := []) ⟨hx, hb, hml, hown, hts⟩ (c_deviceBelowHost_ex l D cy F hst d) (cwV 1 hts gX9_fault_X9_deviceBelowHost rfl rfl rfl (by decide +kernel) ⟨by decide, by decide⟩) hK hN hP hT hS (ci := 14) rfl hk_1 rfl rfl hl.1 rfl (Nat.le_of_ble_eq_true rfl) dX9_fault_2 ⟨Nat.le_of_ble_eq_true rfl, Nat.le_of_ble_eq_true rfl⟩ hout hlocks (Nat.le_refl _) (Nat.le_refl _)

set_option maxRecDepth 100000 in
set_option maxHeartbeats 4000000 in
theorem c_wake_x1 (l : Launch) (D : va_G) (cy : Nat → ClassId) {ad : Nat → Nat} {rw_ : Nat → Nat → Option Nat} {w : va_W} (F : FrC cy ad rw_ w) (hst : l.stackTraces = false) (d : Int32) (hd : ¬ d = 0) : TH l D cy w yX9_wake wsX9_wake 7 103 [.ref (ad 0), .int d] "java/lang/IndexOutOfBoundsException" := by
  refine th_ofW (cc := cX9_wake) (maxL := 6) (ret := (some .int)) (lv := [(0, .ref (ad 0)), (1, .int d)]) (by decide) rfl (Nat.le_of_ble_eq_true rfl) rfl ?_
  intro p e s m below meth c ls hx hb hr hml hown hlocks hout hts hv hl
  have hown : s.vm.findClass RX9 = some m.cls := hown
  obtain ⟨⟨hP, hK, hN⟩, hT⟩ := hv
  have hS : va_S (fun _ => False) s.heap s.heap [] := va_S.rf
  refine lv_aload_n hx hb dX9_wake_0 rfl (lv_at hl 0 rfl) ?_
  refine lv_iload_n hx hb dX9_wake_1 rfl (lv_at hl 1 rfl) ?_
  obtain ⟨k_1, hk_1⟩ := frc_hub F
  exact th_callV (As := [.int d]) (rest := []) ⟨hx, hb, hml, hown, hts⟩ (c_deviceAt_ex l D cy F hst d hd) (cwV 1 hts gX9_wake_X9_deviceAt rfl rfl rfl (by decide +kernel) ⟨by decide, by decide⟩) hK hN hP hT hS (ci := 14) rfl hk_1 rfl rfl hl.1 rfl (Nat.le_of_ble_eq_true rfl) dX9_wake_2 ⟨Nat.le_of_ble_eq_true rfl, Nat.le_of_ble_eq_true rfl⟩ hout hlocks (Nat.le_refl _) (Nat.le_refl _)

theorem iw_X9_wake_RX1 : ∀ w ∈ u_ws RX1 TX1 20, w ∈ wsX9_wake := by decide +kernel
set_option maxRecDepth 100000 in
set_option maxHeartbeats 4000000 in
theorem c_wake_x2 (l : Launch) (D : va_G) (cy : Nat → ClassId) {ad : Nat → Nat} {rw_ : Nat → Nat → Option Nat} {w : va_W} (F : FrC cy ad rw_ w) (hst : l.stackTraces = false) : TH l D cy w yX9_wake wsX9_wake 6 82 [.ref (ad 0), .int 0] "java/lang/UnsupportedOperationException" := by
  refine th_ofW (cc := cX9_wake) (maxL := 6) (ret := (some .int)) (lv := [(0, .ref (ad 0)), (1, .int 0)]) (by decide) rfl (Nat.le_of_ble_eq_true rfl) rfl ?_
  intro p e s m below meth c ls hx hb hr hml hown hlocks hout hts hv hl
  have hown : s.vm.findClass RX9 = some m.cls := hown
  obtain ⟨⟨hP, hK, hN⟩, hT⟩ := hv
  have hS : va_S (fun _ => False) s.heap s.heap [] := va_S.rf
  refine lv_aload_n hx hb dX9_wake_0 rfl (lv_at hl 0 rfl) ?_
  refine lv_iload_n hx hb dX9_wake_1 rfl (lv_at hl 1 rfl) ?_
  obtain ⟨k_1, hk_1⟩ := frc_hub F
  refine ro_callV (As := [.int 0]) (rest := []) ⟨hx, hb, hml, hown, hts⟩ (c_deviceAt_ok l D cy F) (cwV 1 hts gX9_wake_X9_deviceAt rfl rfl rfl (by decide +kernel) ⟨by decide, by decide⟩) hK hN hP hS (ci := 14) rfl hk_1 rfl rfl hl.1 rfl (Nat.le_of_ble_eq_true rfl) dX9_wake_2 ⟨Nat.le_of_ble_eq_true rfl, Nat.le_of_ble_eq_true rfl⟩ (fun H locs hP hS => ?_)
  refine lv_astore_n (lv' := [(2, .ref (ad 100)), (0, .ref (ad 0)), (1, .int 0)]) hx hb dX9_wake_5 rfl hl (by decide) rfl (fun ls hl => ?_)
  refine lv_aload_n hx hb dX9_wake_6 rfl (lv_at hl 0 rfl) ?_
  obtain ⟨k_2, hk_2⟩ := frc_d0 F
  refine va_getN (D := D) (ci := 6) (v := .int 99) (C := RX1) (T := TX1) (N := 20) hx hb hts iw_X9_wake_RX1 hown hK hP k_2 hk_2 rfl 7 (by decide) (va_Nw.use rfl (hN.1 _ nf_38)) (fun _ h9 => h9) rfl dX9_wake_7 ?_
  refine lv_bipush (v := 122) hx hb dX9_wake_10 (by decide) ?_
  refine lv_icmp_eq (tgt := 25) hx hb dX9_wake_12 (by decide) (fun c => absurd c (by decide)) (fun _ => ?_)
  exact th_throwS (text := "it is not asleep") (WS := wsX9_wake) hx hb hst hts hown (by decide +kernel) hT (by decide +kernel) (by decide +kernel) (by decide +kernel) (by decide +kernel) (by decide +kernel) (by decide +kernel) (by decide +kernel) hS (hl.1.trans hml.symm) dX9_wake_15 dX9_wake_18 dX9_wake_19 dX9_wake_21 dX9_wake_24 hout hlocks (by decide) (by decide) (Nat.le_refl _) (Nat.le_refl _) (Nat.le_refl _) (Nat.le_refl _)

set_option maxRecDepth 100000 in
set_option maxHeartbeats 4000000 in
theorem c_close_x1 (l : Launch) (D : va_G) (cy : Nat → ClassId) {ad : Nat → Nat} {rw_ : Nat → Nat → Option Nat} {w : va_W} (F : FrC cy ad rw_ w) (hst : l.stackTraces = false) (n : Int32) : TH l D cy w yX9_close wsX9_close 7 103 [.ref (ad 0), .int n] "java/util/NoSuchElementException" := by
  refine th_ofW (cc := cX9_close) (maxL := 2) (ret := (some .int)) (lv := [(0, .ref (ad 0)), (1, .int n)]) (by decide) rfl (Nat.le_of_ble_eq_true rfl) rfl ?_
  intro p e s m below meth c ls hx hb hr hml hown hlocks hout hts hv hl
  have hown : s.vm.findClass RX9 = some m.cls := hown
  obtain ⟨⟨hP, hK, hN⟩, hT⟩ := hv
  have hS : va_S (fun _ => False) s.heap s.heap [] := va_S.rf
  refine lv_aload_n hx hb dX9_close_0 rfl (lv_at hl 0 rfl) ?_
  refine lv_aload_n hx hb dX9_close_1 rfl (lv_at hl 0 rfl) ?_
  refine lv_iload_n hx hb dX9_close_2 rfl (lv_at hl 1 rfl) ?_
  obtain ⟨k_1, hk_1⟩ := frc_hub F
  exact th_callV (As := [.int n]) (rest := [.ref (ad 0)]) ⟨hx, hb, hml, hown, hts⟩ (c_openPipe_ex l D cy F hst n) (cwV 1 hts gX9_close_X9_openPipe rfl rfl rfl (by decide +kernel) ⟨by decide, by decide⟩) hK hN hP hT hS (ci := 14) rfl hk_1 rfl rfl hl.1 rfl (Nat.le_of_ble_eq_true rfl) dX9_close_3 ⟨Nat.le_of_ble_eq_true rfl, Nat.le_of_ble_eq_true rfl⟩ hout hlocks (Nat.le_refl _) (Nat.le_refl _)

set_option maxRecDepth 100000 in
set_option maxHeartbeats 4000000 in
theorem c_phaseOf_x1 (l : Launch) (D : va_G) (cy : Nat → ClassId) {ad : Nat → Nat} {rw_ : Nat → Nat → Option Nat} {w : va_W} (F : FrC cy ad rw_ w) (hst : l.stackTraces = false) (n : Int32) : TH l D cy w yX9_phaseOf wsX9_phaseOf 7 103 [.ref (ad 0), .int n] "java/util/NoSuchElementException" := by
  refine th_ofW (cc := cX9_phaseOf) (maxL := 2) (ret := (some .int)) (lv := [(0, .ref (ad 0)), (1, .int n)]) (by decide) rfl (Nat.le_of_ble_eq_true rfl) rfl ?_
  intro p e s m below meth c ls hx hb hr hml hown hlocks hout hts hv hl
  have hown : s.vm.findClass RX9 = some m.cls := hown
  obtain ⟨⟨hP, hK, hN⟩, hT⟩ := hv
  have hS : va_S (fun _ => False) s.heap s.heap [] := va_S.rf
  refine lv_aload_n hx hb dX9_phaseOf_0 rfl (lv_at hl 0 rfl) ?_
  refine lv_iload_n hx hb dX9_phaseOf_1 rfl (lv_at hl 1 rfl) ?_
  obtain ⟨k_1, hk_1⟩ := frc_hub F
  exact th_callV (As := [.int n]) (rest := []) ⟨hx, hb, hml, hown, hts⟩ (c_openPipe_ex l D cy F hst n) (cwV 1 hts gX9_phaseOf_X9_openPipe rfl rfl rfl (by decide +kernel) ⟨by decide, by decide⟩) hK hN hP hT hS (ci := 14) rfl hk_1 rfl rfl hl.1 rfl (Nat.le_of_ble_eq_true rfl) dX9_phaseOf_2 ⟨Nat.le_of_ble_eq_true rfl, Nat.le_of_ble_eq_true rfl⟩ hout hlocks (Nat.le_refl _) (Nat.le_refl _)

set_option maxRecDepth 100000 in
set_option maxHeartbeats 4000000 in
theorem c_isHalted_x1 (l : Launch) (D : va_G) (cy : Nat → ClassId) {ad : Nat → Nat} {rw_ : Nat → Nat → Option Nat} {w : va_W} (F : FrC cy ad rw_ w) (hst : l.stackTraces = false) (n : Int32) : TH l D cy w yX9_isHalted wsX9_isHalted 7 103 [.ref (ad 0), .int n] "java/util/NoSuchElementException" := by
  refine th_ofW (cc := cX9_isHalted) (maxL := 2) (ret := (some .boolean)) (lv := [(0, .ref (ad 0)), (1, .int n)]) (by decide) rfl (Nat.le_of_ble_eq_true rfl) rfl ?_
  intro p e s m below meth c ls hx hb hr hml hown hlocks hout hts hv hl
  have hown : s.vm.findClass RX9 = some m.cls := hown
  obtain ⟨⟨hP, hK, hN⟩, hT⟩ := hv
  have hS : va_S (fun _ => False) s.heap s.heap [] := va_S.rf
  refine lv_aload_n hx hb dX9_isHalted_0 rfl (lv_at hl 0 rfl) ?_
  refine lv_iload_n hx hb dX9_isHalted_1 rfl (lv_at hl 1 rfl) ?_
  obtain ⟨k_1, hk_1⟩ := frc_hub F
  exact th_callV (As := [.int n]) (rest := []) ⟨hx, hb, hml, hown, hts⟩ (c_openPipe_ex l D cy F hst n) (cwV 1 hts gX9_isHalted_X9_openPipe rfl rfl rfl (by decide +kernel) ⟨by decide, by decide⟩) hK hN hP hT hS (ci := 14) rfl hk_1 rfl rfl hl.1 rfl (Nat.le_of_ble_eq_true rfl) dX9_isHalted_2 ⟨Nat.le_of_ble_eq_true rfl, Nat.le_of_ble_eq_true rfl⟩ hout hlocks (Nat.le_refl _) (Nat.le_refl _)

set_option maxRecDepth 100000 in
set_option maxHeartbeats 4000000 in
theorem c_clear_x1 (l : Launch) (D : va_G) (cy : Nat → ClassId) {ad : Nat → Nat} {rw_ : Nat → Nat → Option Nat} {w : va_W} (F : FrC cy ad rw_ w) (hst : l.stackTraces = false) (n : Int32) : TH l D cy w yX9_clear wsX9_clear 7 103 [.ref (ad 0), .int n] "java/util/NoSuchElementException" := by
  refine th_ofW (cc := cX9_clear) (maxL := 3) (ret := (some .int)) (lv := [(0, .ref (ad 0)), (1, .int n)]) (by decide) rfl (Nat.le_of_ble_eq_true rfl) rfl ?_
  intro p e s m below meth c ls hx hb hr hml hown hlocks hout hts hv hl
  have hown : s.vm.findClass RX9 = some m.cls := hown
  obtain ⟨⟨hP, hK, hN⟩, hT⟩ := hv
  have hS : va_S (fun _ => False) s.heap s.heap [] := va_S.rf
  refine lv_aload_n hx hb dX9_clear_0 rfl (lv_at hl 0 rfl) ?_
  refine lv_iload_n hx hb dX9_clear_1 rfl (lv_at hl 1 rfl) ?_
  obtain ⟨k_1, hk_1⟩ := frc_hub F
  exact th_callV (As := [.int n]) (rest := []) ⟨hx, hb, hml, hown, hts⟩ (c_openPipe_ex l D cy F hst n) (cwV 1 hts gX9_clear_X9_openPipe rfl rfl rfl (by decide +kernel) ⟨by decide, by decide⟩) hK hN hP hT hS (ci := 14) rfl hk_1 rfl rfl hl.1 rfl (Nat.le_of_ble_eq_true rfl) dX9_clear_2 ⟨Nat.le_of_ble_eq_true rfl, Nat.le_of_ble_eq_true rfl⟩ hout hlocks (Nat.le_refl _) (Nat.le_refl _)

set_option maxRecDepth 100000 in
set_option maxHeartbeats 4000000 in
theorem c_send_x1 (l : Launch) (D : va_G) (cy : Nat → ClassId) {ad : Nat → Nat} {rw_ : Nat → Nat → Option Nat} {w : va_W} (F : FrC cy ad rw_ w) (hst : l.stackTraces = false) (n : Int32) : TH l D cy w yX9_send wsX9_send 7 103 [.ref (ad 0), .int n] "java/util/NoSuchElementException" := by
  refine th_ofW (cc := cX9_send) (maxL := 6) (ret := (some .int)) (lv := [(0, .ref (ad 0)), (1, .int n)]) (by decide) rfl (Nat.le_of_ble_eq_true rfl) rfl ?_
  intro p e s m below meth c ls hx hb hr hml hown hlocks hout hts hv hl
  have hown : s.vm.findClass RX9 = some m.cls := hown
  obtain ⟨⟨hP, hK, hN⟩, hT⟩ := hv
  have hS : va_S (fun _ => False) s.heap s.heap [] := va_S.rf
  refine lv_aload_n hx hb dX9_send_0 rfl (lv_at hl 0 rfl) ?_
  refine lv_iload_n hx hb dX9_send_1 rfl (lv_at hl 1 rfl) ?_
  obtain ⟨k_1, hk_1⟩ := frc_hub F
  exact th_callV (As := [.int n]) (rest := []) ⟨hx, hb, hml, hown, hts⟩ (c_openPipe_ex l D cy F hst n) (cwV 1 hts gX9_send_X9_openPipe rfl rfl rfl (by decide +kernel) ⟨by decide, by decide⟩) hK hN hP hT hS (ci := 14) rfl hk_1 rfl rfl hl.1 rfl (Nat.le_of_ble_eq_true rfl) dX9_send_2 ⟨Nat.le_of_ble_eq_true rfl, Nat.le_of_ble_eq_true rfl⟩ hout hlocks (Nat.le_refl _) (Nat.le_refl _)

set_option maxRecDepth 100000 in
set_option maxHeartbeats 4000000 in
theorem c_ring_x1 (l : Launch) (D : va_G) (cy : Nat → ClassId) {ad : Nat → Nat} {rw_ : Nat → Nat → Option Nat} {w : va_W} (F : FrC cy ad rw_ w) (hst : l.stackTraces = false) (n : Int32) : TH l D cy w yX9_ring wsX9_ring 7 103 [.ref (ad 0), .int n] "java/util/NoSuchElementException" := by
  refine th_ofW (cc := cX9_ring) (maxL := 6) (ret := (some .int)) (lv := [(0, .ref (ad 0)), (1, .int n)]) (by decide) rfl (Nat.le_of_ble_eq_true rfl) rfl ?_
  intro p e s m below meth c ls hx hb hr hml hown hlocks hout hts hv hl
  have hown : s.vm.findClass RX9 = some m.cls := hown
  obtain ⟨⟨hP, hK, hN⟩, hT⟩ := hv
  have hS : va_S (fun _ => False) s.heap s.heap [] := va_S.rf
  refine lv_aload_n hx hb dX9_ring_0 rfl (lv_at hl 0 rfl) ?_
  refine lv_iload_n hx hb dX9_ring_1 rfl (lv_at hl 1 rfl) ?_
  obtain ⟨k_1, hk_1⟩ := frc_hub F
  exact th_callV (As := [.int n]) (rest := []) ⟨hx, hb, hml, hown, hts⟩ (c_openPipe_ex l D cy F hst n) (cwV 1 hts gX9_ring_X9_openPipe rfl rfl rfl (by decide +kernel) ⟨by decide, by decide⟩) hK hN hP hT hS (ci := 14) rfl hk_1 rfl rfl hl.1 rfl (Nat.le_of_ble_eq_true rfl) dX9_ring_2 ⟨Nat.le_of_ble_eq_true rfl, Nat.le_of_ble_eq_true rfl⟩ hout hlocks (Nat.le_refl _) (Nat.le_refl _)

set_option maxRecDepth 100000 in
set_option maxHeartbeats 4000000 in
theorem c_cancel_x1 (l : Launch) (D : va_G) (cy : Nat → ClassId) {ad : Nat → Nat} {rw_ : Nat → Nat → Option Nat} {w : va_W} (F : FrC cy ad rw_ w) (hst : l.stackTraces = false) (n : Int32) : TH l D cy w yX9_cancel wsX9_cancel 7 103 [.ref (ad 0), .int n] "java/util/NoSuchElementException" := by
  refine th_ofW (cc := cX9_cancel) (maxL := 4) (ret := (some .int)) (lv := [(0, .ref (ad 0)), (1, .int n)]) (by decide) rfl (Nat.le_of_ble_eq_true rfl) rfl ?_
  intro p e s m below meth c ls hx hb hr hml hown hlocks hout hts hv hl
  have hown : s.vm.findClass RX9 = some m.cls := hown
  obtain ⟨⟨hP, hK, hN⟩, hT⟩ := hv
  have hS : va_S (fun _ => False) s.heap s.heap [] := va_S.rf
  refine lv_aload_n hx hb dX9_cancel_0 rfl (lv_at hl 0 rfl) ?_
  refine lv_iload_n hx hb dX9_cancel_1 rfl (lv_at hl 1 rfl) ?_
  obtain ⟨k_1, hk_1⟩ := frc_hub F
  exact th_callV (As := [.int n]) (rest := []) ⟨hx, hb, hml, hown, hts⟩ (c_openPipe_ex l D cy F hst n) (cwV 1 hts gX9_cancel_X9_openPipe rfl rfl rfl (by decide +kernel) ⟨by decide, by decide⟩) hK hN hP hT hS (ci := 14) rfl hk_1 rfl rfl hl.1 rfl (Nat.le_of_ble_eq_true rfl) dX9_cancel_2 ⟨Nat.le_of_ble_eq_true rfl, Nat.le_of_ble_eq_true rfl⟩ hout hlocks (Nat.le_refl _) (Nat.le_refl _)

set_option maxRecDepth 100000 in
set_option maxHeartbeats 4000000 in
theorem c_causeOf_x1 (l : Launch) (D : va_G) (cy : Nat → ClassId) {ad : Nat → Nat} {rw_ : Nat → Nat → Option Nat} {w : va_W} (F : FrC cy ad rw_ w) (hst : l.stackTraces = false) (n : Int32) : TH l D cy w yX9_causeOf wsX9_causeOf 7 103 [.ref (ad 0), .int n] "java/util/NoSuchElementException" := by
  refine th_ofW (cc := cX9_causeOf) (maxL := 3) (ret := (some .char)) (lv := [(0, .ref (ad 0)), (1, .int n)]) (by decide) rfl (Nat.le_of_ble_eq_true rfl) rfl ?_
  intro p e s m below meth c ls hx hb hr hml hown hlocks hout hts hv hl
  have hown : s.vm.findClass RX9 = some m.cls := hown
  obtain ⟨⟨hP, hK, hN⟩, hT⟩ := hv
  have hS : va_S (fun _ => False) s.heap s.heap [] := va_S.rf
  refine lv_aload_n hx hb dX9_causeOf_0 rfl (lv_at hl 0 rfl) ?_
  refine lv_iload_n hx hb dX9_causeOf_1 rfl (lv_at hl 1 rfl) ?_
  obtain ⟨k_1, hk_1⟩ := frc_hub F
  exact th_callV (As := [.int n]) (rest := []) ⟨hx, hb, hml, hown, hts⟩ (c_openPipe_ex l D cy F hst n) (cwV 1 hts gX9_causeOf_X9_openPipe rfl rfl rfl (by decide +kernel) ⟨by decide, by decide⟩) hK hN hP hT hS (ci := 14) rfl hk_1 rfl rfl hl.1 rfl (Nat.le_of_ble_eq_true rfl) dX9_causeOf_2 ⟨Nat.le_of_ble_eq_true rfl, Nat.le_of_ble_eq_true rfl⟩ hout hlocks (Nat.le_refl _) (Nat.le_refl _)

set_option maxRecDepth 100000 in
set_option maxHeartbeats 4000000 in
theorem c_ask_x1 (l : Launch) (D : va_G) (cy : Nat → ClassId) {ad : Nat → Nat} {rw_ : Nat → Nat → Option Nat} {w : va_W} (F : FrC cy ad rw_ w) (hst : l.stackTraces = false) (n z : Int32) : TH l D cy w yX9_ask wsX9_ask 7 103 [.ref (ad 0), .int n, .int z] "java/util/NoSuchElementException" := by
  refine th_ofW (cc := cX9_ask) (maxL := 5) (ret := (some .int)) (lv := [(0, .ref (ad 0)), (1, .int n), (2, .int z)]) (by decide) rfl (Nat.le_of_ble_eq_true rfl) rfl ?_
  intro p e s m below meth c ls hx hb hr hml hown hlocks hout hts hv hl
  have hown : s.vm.findClass RX9 = some m.cls := hown
  obtain ⟨⟨hP, hK, hN⟩, hT⟩ := hv
  have hS : va_S (fun _ => False) s.heap s.heap [] := va_S.rf
  refine lv_aload_n hx hb dX9_ask_0 rfl (lv_at hl 0 rfl) ?_
  refine lv_iload_n hx hb dX9_ask_1 rfl (lv_at hl 1 rfl) ?_
  obtain ⟨k_1, hk_1⟩ := frc_hub F
  exact th_callV (As := [.int n]) (rest := []) ⟨hx, hb, hml, hown, hts⟩ (c_openPipe_ex l D cy F hst n) (cwV 1 hts gX9_ask_X9_openPipe rfl rfl rfl (by decide +kernel) ⟨by decide, by decide⟩) hK hN hP hT hS (ci := 14) rfl hk_1 rfl rfl hl.1 rfl (Nat.le_of_ble_eq_true rfl) dX9_ask_2 ⟨Nat.le_of_ble_eq_true rfl, Nat.le_of_ble_eq_true rfl⟩ hout hlocks (Nat.le_refl _) (Nat.le_refl _)

theorem iw_X9_gotAt_RX9 : ∀ w ∈ u_ws RX9 TX9 13, w ∈ wsX9_gotAt := by decide +kernel
set_option maxRecDepth 100000 in
set_option maxHeartbeats 4000000 in
theorem c_gotAt_x1 (l : Launch) (D : va_G) (cy : Nat → ClassId) {ad : Nat → Nat} {rw_ : Nat → Nat → Option Nat} {w : va_W} (F : FrC cy ad rw_ w) (hst : l.stackTraces = false) (n : Int32) : TH l D cy w yX9_gotAt wsX9_gotAt 7 103 [.ref (ad 0), .int n] "java/util/NoSuchElementException" := by
  refine th_ofW (cc := cX9_gotAt) (maxL := 2) (ret := (some .int)) (lv := [(0, .ref (ad 0)), (1, .int n)]) (by decide) rfl (Nat.le_of_ble_eq_true rfl) rfl ?_
  intro p e s m below meth c ls hx hb hr hml hown hlocks hout hts hv hl
  have hown : s.vm.findClass RX9 = some m.cls := hown
  obtain ⟨⟨hP, hK, hN⟩, hT⟩ := hv
  have hS : va_S (fun _ => False) s.heap s.heap [] := va_S.rf
  refine lv_aload_n hx hb dX9_gotAt_0 rfl (lv_at hl 0 rfl) ?_
  obtain ⟨k_1, hk_1⟩ := frc_hub F
  refine va_get (D := D) (ci := 14) (v := .ref (ad 7)) (C := RX9) (T := TX9) (N := 13) hx hb hts iw_X9_gotAt_RX9 hown hK hP k_1 hk_1 rfl 9 (by decide) (hts (.fieldLink RX9 39 "Hubcascade" "received" "LHubcascade$ByteRow;") (by decide +kernel)) (fun _ h9 => h9) rfl dX9_gotAt_1 ?_
  refine lv_iload_n hx hb dX9_gotAt_4 rfl (lv_at hl 1 rfl) ?_
  exact th_callS (As := [.ref (ad 7), .int n]) (rest := []) ⟨hx, hb, hml, hown, hts⟩ (c_newest_ex l D cy F hst n) (va_cwS 2 hts gX9_gotAt_X9_newest rfl rfl rfl (by decide +kernel) ⟨by decide, by decide⟩) hK hN hP hT hS rfl hl.1 rfl (Nat.le_of_ble_eq_true rfl) dX9_gotAt_5 ⟨Nat.le_of_ble_eq_true rfl, Nat.le_of_ble_eq_true rfl⟩ hout hlocks (Nat.le_refl _) (Nat.le_refl _)

set_option maxRecDepth 100000 in
set_option maxHeartbeats 4000000 in
theorem c_taken_x1 (l : Launch) (D : va_G) (cy : Nat → ClassId) {ad : Nat → Nat} {rw_ : Nat → Nat → Option Nat} {w : va_W} (F : FrC cy ad rw_ w) (hst : l.stackTraces = false) (d n : Int32) : TH l D cy w yX9_taken wsX9_taken 8 126 [.ref (ad 0), .int d, .int n] "java/lang/IndexOutOfBoundsException" := by
  refine th_ofW (cc := cX9_taken) (maxL := 3) (ret := (some .int)) (lv := [(0, .ref (ad 0)), (1, .int d), (2, .int n)]) (by decide) rfl (Nat.le_of_ble_eq_true rfl) rfl ?_
  intro p e s m below meth c ls hx hb hr hml hown hlocks hout hts hv hl
  have hown : s.vm.findClass RX9 = some m.cls := hown
  obtain ⟨⟨hP, hK, hN⟩, hT⟩ := hv
  have hS : va_S (fun _ => False) s.heap s.heap [] := va_S.rf
  refine lv_aload_n hx hb dX9_taken_0 rfl (lv_at hl 0 rfl) ?_
  refine lv_iload_n hx hb dX9_taken_1 rfl (lv_at hl 1 rfl) ?_
  refine lv_iload_n hx hb dX9_taken_2 rfl (lv_at hl 2 rfl) ?_
  obtain ⟨k_1, hk_1⟩ := frc_hub F
  exact th_callV (As := [.int d, .int n]) (rest := []) ⟨hx, hb, hml, hown, hts⟩ (c_endpointOut_ex l D cy F hst d n) (cwV 2 hts gX9_taken_X9_endpointOut rfl rfl rfl (by decide +kernel) ⟨by decide, by decide⟩) hK hN hP hT hS (ci := 14) rfl hk_1 rfl rfl hl.1 rfl (Nat.le_of_ble_eq_true rfl) dX9_taken_3 ⟨Nat.le_of_ble_eq_true rfl, Nat.le_of_ble_eq_true rfl⟩ hout hlocks (Nat.le_refl _) (Nat.le_refl _)

set_option maxRecDepth 100000 in
set_option maxHeartbeats 4000000 in
theorem c_takenAt_x1 (l : Launch) (D : va_G) (cy : Nat → ClassId) {ad : Nat → Nat} {rw_ : Nat → Nat → Option Nat} {w : va_W} (F : FrC cy ad rw_ w) (hst : l.stackTraces = false) (d n z : Int32) : TH l D cy w yX9_takenAt wsX9_takenAt 8 126 [.ref (ad 0), .int d, .int n, .int z] "java/lang/IndexOutOfBoundsException" := by
  refine th_ofW (cc := cX9_takenAt) (maxL := 4) (ret := (some .int)) (lv := [(0, .ref (ad 0)), (1, .int d), (2, .int n), (3, .int z)]) (by decide) rfl (Nat.le_of_ble_eq_true rfl) rfl ?_
  intro p e s m below meth c ls hx hb hr hml hown hlocks hout hts hv hl
  have hown : s.vm.findClass RX9 = some m.cls := hown
  obtain ⟨⟨hP, hK, hN⟩, hT⟩ := hv
  have hS : va_S (fun _ => False) s.heap s.heap [] := va_S.rf
  refine lv_aload_n hx hb dX9_takenAt_0 rfl (lv_at hl 0 rfl) ?_
  refine lv_iload_n hx hb dX9_takenAt_1 rfl (lv_at hl 1 rfl) ?_
  refine lv_iload_n hx hb dX9_takenAt_2 rfl (lv_at hl 2 rfl) ?_
  obtain ⟨k_1, hk_1⟩ := frc_hub F
  exact th_callV (As := [.int d, .int n]) (rest := []) ⟨hx, hb, hml, hown, hts⟩ (c_endpointOut_ex l D cy F hst d n) (cwV 2 hts gX9_takenAt_X9_endpointOut rfl rfl rfl (by decide +kernel) ⟨by decide, by decide⟩) hK hN hP hT hS (ci := 14) rfl hk_1 rfl rfl hl.1 rfl (Nat.le_of_ble_eq_true rfl) dX9_takenAt_3 ⟨Nat.le_of_ble_eq_true rfl, Nat.le_of_ble_eq_true rfl⟩ hout hlocks (Nat.le_refl _) (Nat.le_refl _)

set_option maxRecDepth 100000 in
set_option maxHeartbeats 4000000 in
theorem c_waiting_x1 (l : Launch) (D : va_G) (cy : Nat → ClassId) {ad : Nat → Nat} {rw_ : Nat → Nat → Option Nat} {w : va_W} (F : FrC cy ad rw_ w) (hst : l.stackTraces = false) (d n : Int32) : TH l D cy w yX9_waiting wsX9_waiting 7 103 [.ref (ad 0), .int d, .int n] "java/lang/IndexOutOfBoundsException" := by
  refine th_ofW (cc := cX9_waiting) (maxL := 4) (ret := (some .int)) (lv := [(0, .ref (ad 0)), (1, .int d), (2, .int n)]) (by decide) rfl (Nat.le_of_ble_eq_true rfl) rfl ?_
  intro p e s m below meth c ls hx hb hr hml hown hlocks hout hts hv hl
  have hown : s.vm.findClass RX9 = some m.cls := hown
  obtain ⟨⟨hP, hK, hN⟩, hT⟩ := hv
  have hS : va_S (fun _ => False) s.heap s.heap [] := va_S.rf
  refine lv_aload_n hx hb dX9_waiting_0 rfl (lv_at hl 0 rfl) ?_
  refine lv_iload_n hx hb dX9_waiting_1 rfl (lv_at hl 1 rfl) ?_
  by_cases hd : d = 0
  · subst hd
    obtain ⟨k_1, hk_1⟩ := frc_hub F
    refine ro_callV (As := [.int 0]) (rest := []) ⟨hx, hb, hml, hown, hts⟩ (c_deviceAt_ok l D cy F) (cwV 1 hts gX9_waiting_X9_deviceAt rfl rfl rfl (by decide +kernel) ⟨by decide, by decide⟩) hK hN hP hS (ci := 14) rfl hk_1 rfl rfl hl.1 rfl (Nat.le_of_ble_eq_true rfl) dX9_waiting_2 ⟨Nat.le_of_ble_eq_true rfl, Nat.le_of_ble_eq_true rfl⟩ (fun H locs hP hS => ?_)
    refine lv_iload_n hx hb dX9_waiting_5 rfl (lv_at hl 2 rfl) ?_
    exact th_callS (As := [.ref (ad 100), .int n]) (rest := []) ⟨hx, hb, hml, hown, hts⟩ (c_endpointAt_ex l D cy F hst n) (va_cwS 2 hts gX9_waiting_X9_endpointAt rfl rfl rfl (by decide +kernel) ⟨by decide, by decide⟩) hK hN hP hT hS rfl hl.1 rfl (Nat.le_of_ble_eq_true rfl) dX9_waiting_6 ⟨Nat.le_of_ble_eq_true rfl, Nat.le_of_ble_eq_true rfl⟩ hout hlocks (Nat.le_refl _) (Nat.le_refl _)
  · obtain ⟨k_2, hk_2⟩ := frc_hub F
    exact th_callV (As := [.int d]) (rest := []) ⟨hx, hb, hml, hown, hts⟩ (c_deviceAt_ex l D cy F hst d hd) (cwV 1 hts gX9_waiting_X9_deviceAt rfl rfl rfl (by decide +kernel) ⟨by decide, by decide⟩) hK hN hP hT hS (ci := 14) rfl hk_2 rfl rfl hl.1 rfl (Nat.le_of_ble_eq_true rfl) dX9_waiting_2 ⟨Nat.le_of_ble_eq_true rfl, Nat.le_of_ble_eq_true rfl⟩ hout hlocks (Nat.le_refl _) (Nat.le_refl _)

set_option maxRecDepth 100000 in
set_option maxHeartbeats 4000000 in
theorem c_load_x1 (l : Launch) (D : va_G) (cy : Nat → ClassId) {ad : Nat → Nat} {rw_ : Nat → Nat → Option Nat} {w : va_W} (F : FrC cy ad rw_ w) (hst : l.stackTraces = false) (d n : Int32) : TH l D cy w yX9_load wsX9_load 7 103 [.ref (ad 0), .int d, .int n] "java/lang/IndexOutOfBoundsException" := by
  refine th_ofW (cc := cX9_load) (maxL := 5) (ret := (some .int)) (lv := [(0, .ref (ad 0)), (1, .int d), (2, .int n)]) (by decide) rfl (Nat.le_of_ble_eq_true rfl) rfl ?_
  intro p e s m below meth c ls hx hb hr hml hown hlocks hout hts hv hl
  have hown : s.vm.findClass RX9 = some m.cls := hown
  obtain ⟨⟨hP, hK, hN⟩, hT⟩ := hv
  have hS : va_S (fun _ => False) s.heap s.heap [] := va_S.rf
  refine lv_aload_n hx hb dX9_load_0 rfl (lv_at hl 0 rfl) ?_
  refine lv_iload_n hx hb dX9_load_1 rfl (lv_at hl 1 rfl) ?_
  by_cases hd : d = 0
  · subst hd
    obtain ⟨k_1, hk_1⟩ := frc_hub F
    refine ro_callV (As := [.int 0]) (rest := []) ⟨hx, hb, hml, hown, hts⟩ (c_deviceAt_ok l D cy F) (cwV 1 hts gX9_load_X9_deviceAt rfl rfl rfl (by decide +kernel) ⟨by decide, by decide⟩) hK hN hP hS (ci := 14) rfl hk_1 rfl rfl hl.1 rfl (Nat.le_of_ble_eq_true rfl) dX9_load_2 ⟨Nat.le_of_ble_eq_true rfl, Nat.le_of_ble_eq_true rfl⟩ (fun H locs hP hS => ?_)
    refine lv_iload_n hx hb dX9_load_5 rfl (lv_at hl 2 rfl) ?_
    exact th_callS (As := [.ref (ad 100), .int n]) (rest := []) ⟨hx, hb, hml, hown, hts⟩ (c_endpointAt_ex l D cy F hst n) (va_cwS 2 hts gX9_load_X9_endpointAt rfl rfl rfl (by decide +kernel) ⟨by decide, by decide⟩) hK hN hP hT hS rfl hl.1 rfl (Nat.le_of_ble_eq_true rfl) dX9_load_6 ⟨Nat.le_of_ble_eq_true rfl, Nat.le_of_ble_eq_true rfl⟩ hout hlocks (Nat.le_refl _) (Nat.le_refl _)
  · obtain ⟨k_2, hk_2⟩ := frc_hub F
    exact th_callV (As := [.int d]) (rest := []) ⟨hx, hb, hml, hown, hts⟩ (c_deviceAt_ex l D cy F hst d hd) (cwV 1 hts gX9_load_X9_deviceAt rfl rfl rfl (by decide +kernel) ⟨by decide, by decide⟩) hK hN hP hT hS (ci := 14) rfl hk_2 rfl rfl hl.1 rfl (Nat.le_of_ble_eq_true rfl) dX9_load_2 ⟨Nat.le_of_ble_eq_true rfl, Nat.le_of_ble_eq_true rfl⟩ hout hlocks (Nat.le_refl _) (Nat.le_refl _)

set_option maxRecDepth 100000 in
set_option maxHeartbeats 4000000 in
theorem c_open_x1 (l : Launch) (D : va_G) (cy : Nat → ClassId) {ad : Nat → Nat} {rw_ : Nat → Nat → Option Nat} {w : va_W} (F : FrC cy ad rw_ w) (hst : l.stackTraces = false) (d n q z : Int32) : TH l D cy w yX9_open wsX9_open 7 103 [.ref (ad 0), .int d, .int n, .int q, .int z] "java/lang/IndexOutOfBoundsException" := by
  refine th_ofW (cc := cX9_open) (maxL := 9) (ret := (some .int)) (lv := [(0, .ref (ad 0)), (1, .int d), (2, .int n), (3, .int q), (4, .int z)]) (by decide) rfl (Nat.le_of_ble_eq_true rfl) rfl ?_
  intro p e s m below meth c ls hx hb hr hml hown hlocks hout hts hv hl
  have hown : s.vm.findClass RX9 = some m.cls := hown
  obtain ⟨⟨hP, hK, hN⟩, hT⟩ := hv
  have hS : va_S (fun _ => False) s.heap s.heap [] := va_S.rf
  refine lv_aload_n hx hb dX9_open_0 rfl (lv_at hl 0 rfl) ?_
  refine lv_iload_n hx hb dX9_open_1 rfl (lv_at hl 1 rfl) ?_
  by_cases hd : d = 0
  · subst hd
    obtain ⟨k_1, hk_1⟩ := frc_hub F
    refine ro_callV (As := [.int 0]) (rest := []) ⟨hx, hb, hml, hown, hts⟩ (c_deviceAt_ok l D cy F) (cwV 1 hts gX9_open_X9_deviceAt rfl rfl rfl (by decide +kernel) ⟨by decide, by decide⟩) hK hN hP hS (ci := 14) rfl hk_1 rfl rfl hl.1 rfl (Nat.le_of_ble_eq_true rfl) dX9_open_2 ⟨Nat.le_of_ble_eq_true rfl, Nat.le_of_ble_eq_true rfl⟩ (fun H locs hP hS => ?_)
    refine lv_astore (lv' := [(5, .ref (ad 100)), (0, .ref (ad 0)), (1, .int 0), (2, .int n), (3, .int q), (4, .int z)]) hx hb dX9_open_5 hl (by decide) rfl (fun ls hl => ?_)
    refine lv_aload hx hb dX9_open_7 (lv_at hl 0 rfl) ?_
    refine lv_iload_n hx hb dX9_open_9 rfl (lv_at hl 3 rfl) ?_
    exact th_callS (As := [.ref (ad 100), .int n]) (rest := []) ⟨hx, hb, hml, hown, hts⟩ (c_endpointAt_ex l D cy F hst n) (va_cwS 2 hts gX9_open_X9_endpointAt rfl rfl rfl (by decide +kernel) ⟨by decide, by decide⟩) hK hN hP hT hS rfl hl.1 rfl (Nat.le_of_ble_eq_true rfl) dX9_open_10 ⟨Nat.le_of_ble_eq_true rfl, Nat.le_of_ble_eq_true rfl⟩ hout hlocks (Nat.le_refl _) (Nat.le_refl _)
  · obtain ⟨k_2, hk_2⟩ := frc_hub F
    exact th_callV (As := [.int d]) (rest := []) ⟨hx, hb, hml, hown, hts⟩ (c_deviceAt_ex l D cy F hst d hd) (cwV 1 hts gX9_open_X9_deviceAt rfl rfl rfl (by decide +kernel) ⟨by decide, by decide⟩) hK hN hP hT hS (ci := 14) rfl hk_2 rfl rfl hl.1 rfl (Nat.le_of_ble_eq_true rfl) dX9_open_2 ⟨Nat.le_of_ble_eq_true rfl, Nat.le_of_ble_eq_true rfl⟩ hout hlocks (Nat.le_refl _) (Nat.le_refl _)

set_option maxRecDepth 100000 in
set_option maxHeartbeats 4000000 in
theorem c_plug_x1a (l : Launch) (D : va_G) (cy : Nat → ClassId) {ad : Nat → Nat} {rw_ : Nat → Nat → Option Nat} {w : va_W} (F : FrC cy ad rw_ w) (hst : l.stackTraces = false) (d n z : Int32) (hd : ¬ d = 0) : TH l D cy w yX9_plug wsX9_plug 7 103 [.ref (ad 0), .int d, .int n, .int z] "java/lang/IndexOutOfBoundsException" := by
  refine th_ofW (cc := cX9_plug) (maxL := 6) (ret := (some .int)) (lv := [(0, .ref (ad 0)), (1, .int d), (2, .int n), (3, .int z)]) (by decide) rfl (Nat.le_of_ble_eq_true rfl) rfl ?_
  intro p e s m below meth c ls hx hb hr hml hown hlocks hout hts hv hl
  have hown : s.vm.findClass RX9 = some m.cls := hown
  obtain ⟨⟨hP, hK, hN⟩, hT⟩ := hv
  have hS : va_S (fun _ => False) s.heap s.heap [] := va_S.rf
  refine lv_aload_n hx hb dX9_plug_0 rfl (lv_at hl 0 rfl) ?_
  refine lv_iload_n hx hb dX9_plug_1 rfl (lv_at hl 1 rfl) ?_
  obtain ⟨k_1, hk_1⟩ := frc_hub F
  exact th_callV (As := [.int d]) (rest := []) ⟨hx, hb, hml, hown, hts⟩ (c_deviceAt_ex l D cy F hst d hd) (cwV 1 hts gX9_plug_X9_deviceAt rfl rfl rfl (by decide +kernel) ⟨by decide, by decide⟩) hK hN hP hT hS (ci := 14) rfl hk_1 rfl rfl hl.1 rfl (Nat.le_of_ble_eq_true rfl) dX9_plug_2 ⟨Nat.le_of_ble_eq_true rfl, Nat.le_of_ble_eq_true rfl⟩ hout hlocks (Nat.le_refl _) (Nat.le_refl _)

set_option maxRecDepth 100000 in
set_option maxHeartbeats 4000000 in
theorem c_plug_x1b (l : Launch) (D : va_G) (cy : Nat → ClassId) {ad : Nat → Nat} {rw_ : Nat → Nat → Option Nat} {w : va_W} (F : FrC cy ad rw_ w) (hst : l.stackTraces = false) (d z : Int32) (hd : ¬ d = 0) : TH l D cy w yX9_plug wsX9_plug 7 103 [.ref (ad 0), .int 0, .int d, .int z] "java/lang/IndexOutOfBoundsException" := by
  refine th_ofW (cc := cX9_plug) (maxL := 6) (ret := (some .int)) (lv := [(0, .ref (ad 0)), (1, .int 0), (2, .int d), (3, .int z)]) (by decide) rfl (Nat.le_of_ble_eq_true rfl) rfl ?_
  intro p e s m below meth c ls hx hb hr hml hown hlocks hout hts hv hl
  have hown : s.vm.findClass RX9 = some m.cls := hown
  obtain ⟨⟨hP, hK, hN⟩, hT⟩ := hv
  have hS : va_S (fun _ => False) s.heap s.heap [] := va_S.rf
  refine lv_aload_n hx hb dX9_plug_0 rfl (lv_at hl 0 rfl) ?_
  refine lv_iload_n hx hb dX9_plug_1 rfl (lv_at hl 1 rfl) ?_
  obtain ⟨k_1, hk_1⟩ := frc_hub F
  refine ro_callV (As := [.int 0]) (rest := []) ⟨hx, hb, hml, hown, hts⟩ (c_deviceAt_ok l D cy F) (cwV 1 hts gX9_plug_X9_deviceAt rfl rfl rfl (by decide +kernel) ⟨by decide, by decide⟩) hK hN hP hS (ci := 14) rfl hk_1 rfl rfl hl.1 rfl (Nat.le_of_ble_eq_true rfl) dX9_plug_2 ⟨Nat.le_of_ble_eq_true rfl, Nat.le_of_ble_eq_true rfl⟩ (fun H locs hP hS => ?_)
  refine lv_astore (lv' := [(4, .ref (ad 100)), (0, .ref (ad 0)), (1, .int 0), (2, .int d), (3, .int z)]) hx hb dX9_plug_5 hl (by decide) rfl (fun ls hl => ?_)
  refine lv_aload_n hx hb dX9_plug_7 rfl (lv_at hl 1 rfl) ?_
  refine lv_iload_n hx hb dX9_plug_8 rfl (lv_at hl 3 rfl) ?_
  exact th_callV (As := [.int d]) (rest := []) ⟨hx, hb, hml, hown, hts⟩ (c_deviceAt_ex l D cy F hst d hd) (cwV 1 hts gX9_plug_X9_deviceAt rfl rfl rfl (by decide +kernel) ⟨by decide, by decide⟩) hK hN hP hT hS (ci := 14) rfl hk_1 rfl rfl hl.1 rfl (Nat.le_of_ble_eq_true rfl) dX9_plug_9 ⟨Nat.le_of_ble_eq_true rfl, Nat.le_of_ble_eq_true rfl⟩ hout hlocks (Nat.le_refl _) (Nat.le_refl _)

set_option maxRecDepth 100000 in
set_option maxHeartbeats 4000000 in
theorem c_endpoint_x1 (l : Launch) (D : va_G) (cy : Nat → ClassId) {ad : Nat → Nat} {rw_ : Nat → Nat → Option Nat} {w : va_W} (F : FrC cy ad rw_ w) (hst : l.stackTraces = false) (d n q z : Int32) (hd : ¬ d = 0) : TH l D cy w yX9_endpoint wsX9_endpoint 7 103 [.ref (ad 0), .int d, .int n, .int q, .int z] "java/lang/IndexOutOfBoundsException" := by
  refine th_ofW (cc := cX9_endpoint) (maxL := 7) (ret := (some .int)) (lv := [(0, .ref (ad 0)), (1, .int d), (2, .int n), (3, .int q), (4, .int z)]) (by decide) rfl (Nat.le_of_ble_eq_true rfl) rfl ?_
  intro p e s m below meth c ls hx hb hr hml hown hlocks hout hts hv hl
  have hown : s.vm.findClass RX9 = some m.cls := hown
  obtain ⟨⟨hP, hK, hN⟩, hT⟩ := hv
  have hS : va_S (fun _ => False) s.heap s.heap [] := va_S.rf
  refine lv_aload_n hx hb dX9_endpoint_0 rfl (lv_at hl 0 rfl) ?_
  refine lv_iload_n hx hb dX9_endpoint_1 rfl (lv_at hl 1 rfl) ?_
  obtain ⟨k_1, hk_1⟩ := frc_hub F
  exact th_callV (As := [.int d]) (rest := []) ⟨hx, hb, hml, hown, hts⟩ (c_deviceAt_ex l D cy F hst d hd) (cwV 1 hts gX9_endpoint_X9_deviceAt rfl rfl rfl (by decide +kernel) ⟨by decide, by decide⟩) hK hN hP hT hS (ci := 14) rfl hk_1 rfl rfl hl.1 rfl (Nat.le_of_ble_eq_true rfl) dX9_endpoint_2 ⟨Nat.le_of_ble_eq_true rfl, Nat.le_of_ble_eq_true rfl⟩ hout hlocks (Nat.le_refl _) (Nat.le_refl _)

theorem iw_X9_frames_RX9 : ∀ w ∈ u_ws RX9 TX9 13, w ∈ wsX9_frames := by decide +kernel
set_option maxRecDepth 100000 in
set_option maxHeartbeats 4000000 in
theorem c_frames_ok (l : Launch) (D : va_G) (cy : Nat → ClassId) {ad : Nat → Nat} {rw_ : Nat → Nat → Option Nat} {w : va_W} (F : FrC cy ad rw_ w) : RO l D cy w yX9_frames wsX9_frames 0 0 [.ref (ad 0)] (some (.int 0)) := by
  refine ro_ofW (cc := cX9_frames) (maxL := 1) (ret := (some .int)) (lv := [(0, .ref (ad 0))]) (by decide) rfl (Nat.le_of_ble_eq_true rfl) rfl ?_
  intro p e s m below meth c ls hx hb hr hml hown hlocks hname hts hv hl
  have hown : s.vm.findClass RX9 = some m.cls := hown
  obtain ⟨hP, hK, hN⟩ := hv
  have hS : va_S (fun _ => False) s.heap s.heap [] := va_S.rf
  refine lv_aload_n hx hb dX9_frames_0 rfl (lv_at hl 0 rfl) ?_
  obtain ⟨k_1, hk_1⟩ := frc_hub F
  refine va_get (D := D) (ci := 14) (v := .int 0) (C := RX9) (T := TX9) (N := 13) hx hb hts iw_X9_frames_RX9 hown hK hP k_1 hk_1 rfl 7 (by decide) (hts (.fieldLink RX9 252 "Hubcascade" "frames" "I") (by decide +kernel)) (fun _ h9 => h9) rfl dX9_frames_1 ?_
  exact W.iret hx hb hr (fun t ht hW => ⟨rfl, hS.F ht⟩) hS.2.2 dX9_frames_4

theorem iw_X9_events_RX3 : ∀ w ∈ u_ws RX3 TX3 10, w ∈ wsX9_events := by decide +kernel
theorem iw_X9_events_RX9 : ∀ w ∈ u_ws RX9 TX9 13, w ∈ wsX9_events := by decide +kernel
set_option maxRecDepth 100000 in
set_option maxHeartbeats 4000000 in
theorem c_events_ok (l : Launch) (D : va_G) (cy : Nat → ClassId) {ad : Nat → Nat} {rw_ : Nat → Nat → Option Nat} {w : va_W} (F : FrC cy ad rw_ w) : RO l D cy w yX9_events wsX9_events 0 0 [.ref (ad 0)] (some (.int 0)) := by
  refine ro_ofW (cc := cX9_events) (maxL := 1) (ret := (some .int)) (lv := [(0, .ref (ad 0))]) (by decide) rfl (Nat.le_of_ble_eq_true rfl) rfl ?_
  intro p e s m below meth c ls hx hb hr hml hown hlocks hname hts hv hl
  have hown : s.vm.findClass RX9 = some m.cls := hown
  obtain ⟨hP, hK, hN⟩ := hv
  have hS : va_S (fun _ => False) s.heap s.heap [] := va_S.rf
  refine lv_aload_n hx hb dX9_events_0 rfl (lv_at hl 0 rfl) ?_
  obtain ⟨k_1, hk_1⟩ := frc_hub F
  refine va_get (D := D) (ci := 14) (v := .ref (ad 13)) (C := RX9) (T := TX9) (N := 13) hx hb hts iw_X9_events_RX9 hown hK hP k_1 hk_1 rfl 11 (by decide) (hts (.fieldLink RX9 52 "Hubcascade" "events" "LHubcascade$Events;") (by decide +kernel)) (fun _ h9 => h9) rfl dX9_events_1 ?_
  obtain ⟨k_2, hk_2⟩ := frc_ev F
  refine va_getN (D := D) (ci := 8) (v := .int 0) (C := RX3) (T := TX3) (N := 10) hx hb hts iw_X9_events_RX3 hown hK hP k_2 hk_2 rfl 4 (by decide) (va_Nw.use rfl (hN.1 _ nf_7)) (fun _ h9 => h9) rfl dX9_events_4 ?_
  exact W.iret hx hb hr (fun t ht hW => ⟨rfl, hS.F ht⟩) hS.2.2 dX9_events_7

theorem iw_X9_missed_RX3 : ∀ w ∈ u_ws RX3 TX3 10, w ∈ wsX9_missed := by decide +kernel
theorem iw_X9_missed_RX9 : ∀ w ∈ u_ws RX9 TX9 13, w ∈ wsX9_missed := by decide +kernel
set_option maxRecDepth 100000 in
set_option maxHeartbeats 4000000 in
theorem c_missed_ok (l : Launch) (D : va_G) (cy : Nat → ClassId) {ad : Nat → Nat} {rw_ : Nat → Nat → Option Nat} {w : va_W} (F : FrC cy ad rw_ w) : RO l D cy w yX9_missed wsX9_missed 0 0 [.ref (ad 0)] (some (.int 0)) := by
  refine ro_ofW (cc := cX9_missed) (maxL := 1) (ret := (some .int)) (lv := [(0, .ref (ad 0))]) (by decide) rfl (Nat.le_of_ble_eq_true rfl) rfl ?_
  intro p e s m below meth c ls hx hb hr hml hown hlocks hname hts hv hl
  have hown : s.vm.findClass RX9 = some m.cls := hown
  obtain ⟨hP, hK, hN⟩ := hv
  have hS : va_S (fun _ => False) s.heap s.heap [] := va_S.rf
  refine lv_aload_n hx hb dX9_missed_0 rfl (lv_at hl 0 rfl) ?_
  obtain ⟨k_1, hk_1⟩ := frc_hub F
  refine va_get (D := D) (ci := 14) (v := .ref (ad 13)) (C := RX9) (T := TX9) (N := 13) hx hb hts iw_X9_missed_RX9 hown hK hP k_1 hk_1 rfl 11 (by decide) (hts (.fieldLink RX9 52 "Hubcascade" "events" "LHubcascade$Events;") (by decide +kernel)) (fun _ h9 => h9) rfl dX9_missed_1 ?_
  obtain ⟨k_2, hk_2⟩ := frc_ev F
  refine va_getN (D := D) (ci := 8) (v := .int 0) (C := RX3) (T := TX3) (N := 10) hx hb hts iw_X9_missed_RX3 hown hK hP k_2 hk_2 rfl 5 (by decide) (va_Nw.use rfl (hN.1 _ nf_8)) (fun _ h9 => h9) rfl dX9_missed_4 ?_
  exact W.iret hx hb hr (fun t ht hW => ⟨rfl, hS.F ht⟩) hS.2.2 dX9_missed_7

theorem iw_X9_got_RX0 : ∀ w ∈ u_ws RX0 TX0 4, w ∈ wsX9_got := by decide +kernel
theorem iw_X9_got_RX9 : ∀ w ∈ u_ws RX9 TX9 13, w ∈ wsX9_got := by decide +kernel
set_option maxRecDepth 100000 in
set_option maxHeartbeats 4000000 in
theorem c_got_ok (l : Launch) (D : va_G) (cy : Nat → ClassId) {ad : Nat → Nat} {rw_ : Nat → Nat → Option Nat} {w : va_W} (F : FrC cy ad rw_ w) : RO l D cy w yX9_got wsX9_got 0 0 [.ref (ad 0)] (some (.int 0)) := by
  refine ro_ofW (cc := cX9_got) (maxL := 1) (ret := (some .int)) (lv := [(0, .ref (ad 0))]) (by decide) rfl (Nat.le_of_ble_eq_true rfl) rfl ?_
  intro p e s m below meth c ls hx hb hr hml hown hlocks hname hts hv hl
  have hown : s.vm.findClass RX9 = some m.cls := hown
  obtain ⟨hP, hK, hN⟩ := hv
  have hS : va_S (fun _ => False) s.heap s.heap [] := va_S.rf
  refine lv_aload_n hx hb dX9_got_0 rfl (lv_at hl 0 rfl) ?_
  obtain ⟨k_1, hk_1⟩ := frc_hub F
  refine va_get (D := D) (ci := 14) (v := .ref (ad 7)) (C := RX9) (T := TX9) (N := 13) hx hb hts iw_X9_got_RX9 hown hK hP k_1 hk_1 rfl 9 (by decide) (hts (.fieldLink RX9 39 "Hubcascade" "received" "LHubcascade$ByteRow;") (by decide +kernel)) (fun _ h9 => h9) rfl dX9_got_1 ?_
  obtain ⟨k_2, hk_2⟩ := frc_re F
  refine va_getN (D := D) (ci := 5) (v := .int 0) (C := RX0) (T := TX0) (N := 4) hx hb hts iw_X9_got_RX0 hown hK hP k_2 hk_2 rfl 3 (by decide) (va_Nw.use rfl (hN.1 _ nf_1)) (fun _ h9 => h9) rfl dX9_got_4 ?_
  exact W.iret hx hb hr (fun t ht hW => ⟨rfl, hS.F ht⟩) hS.2.2 dX9_got_7

theorem iw_X9_event_RX3 : ∀ w ∈ u_ws RX3 TX3 10, w ∈ wsX9_event := by decide +kernel
theorem iw_X9_event_RX9 : ∀ w ∈ u_ws RX9 TX9 13, w ∈ wsX9_event := by decide +kernel
set_option maxRecDepth 100000 in
set_option maxHeartbeats 4000000 in
theorem c_event_x1 (l : Launch) (D : va_G) (cy : Nat → ClassId) {ad : Nat → Nat} {rw_ : Nat → Nat → Option Nat} {w : va_W} (F : FrC cy ad rw_ w) (hst : l.stackTraces = false) : TH l D cy w yX9_event wsX9_event 6 82 [.ref (ad 0)] "java/util/NoSuchElementException" := by
  refine th_ofW (cc := cX9_event) (maxL := 1) (ret := (some .char)) (lv := [(0, .ref (ad 0))]) (by decide) rfl (Nat.le_of_ble_eq_true rfl) rfl ?_
  intro p e s m below meth c ls hx hb hr hml hown hlocks hout hts hv hl
  have hown : s.vm.findClass RX9 = some m.cls := hown
  obtain ⟨⟨hP, hK, hN⟩, hT⟩ := hv
  have hS : va_S (fun _ => False) s.heap s.heap [] := va_S.rf
  refine lv_aload_n hx hb dX9_event_0 rfl (lv_at hl 0 rfl) ?_
  obtain ⟨k_1, hk_1⟩ := frc_hub F
  refine va_get (D := D) (ci := 14) (v := .ref (ad 13)) (C := RX9) (T := TX9) (N := 13) hx hb hts iw_X9_event_RX9 hown hK hP k_1 hk_1 rfl 11 (by decide) (hts (.fieldLink RX9 52 "Hubcascade" "events" "LHubcascade$Events;") (by decide +kernel)) (fun _ h9 => h9) rfl dX9_event_1 ?_
  obtain ⟨k_2, hk_2⟩ := frc_ev F
  refine va_getN (D := D) (ci := 8) (v := .int 0) (C := RX3) (T := TX3) (N := 10) hx hb hts iw_X9_event_RX3 hown hK hP k_2 hk_2 rfl 4 (by decide) (va_Nw.use rfl (hN.1 _ nf_7)) (fun _ h9 => h9) rfl dX9_event_4 ?_
  refine lv_if_ne (tgt := 21) hx hb dX9_event_7 (by decide) (fun c => absurd (by decide) c) (fun _ => ?_)
  exact th_throwNW (text := "there is no event") (WS := wsX9_event) hx hb hst hts hown (by decide +kernel) hT (by decide +kernel) (by decide +kernel) (by decide +kernel) (by decide +kernel) (by decide +kernel) (by decide +kernel) (by decide +kernel) hS (hl.1.trans hml.symm) dX9_event_10 dX9_event_13 dX9_event_14 dX9_event_17 dX9_event_20 hout hlocks (by decide) (by decide) (Nat.le_refl _) (Nat.le_refl _) (Nat.le_refl _) (Nat.le_refl _)

theorem iw_X9_eventPipe_RX3 : ∀ w ∈ u_ws RX3 TX3 10, w ∈ wsX9_eventPipe := by decide +kernel
theorem iw_X9_eventPipe_RX9 : ∀ w ∈ u_ws RX9 TX9 13, w ∈ wsX9_eventPipe := by decide +kernel
set_option maxRecDepth 100000 in
set_option maxHeartbeats 4000000 in
theorem c_eventPipe_x1 (l : Launch) (D : va_G) (cy : Nat → ClassId) {ad : Nat → Nat} {rw_ : Nat → Nat → Option Nat} {w : va_W} (F : FrC cy ad rw_ w) (hst : l.stackTraces = false) : TH l D cy w yX9_eventPipe wsX9_eventPipe 6 82 [.ref (ad 0)] "java/util/NoSuchElementException" := by
  refine th_ofW (cc := cX9_eventPipe) (maxL := 1) (ret := (some .int)) (lv := [(0, .ref (ad 0))]) (by decide) rfl (Nat.le_of_ble_eq_true rfl) rfl ?_
  intro p e s m below meth c ls hx hb hr hml hown hlocks hout hts hv hl
  have hown : s.vm.findClass RX9 = some m.cls := hown
  obtain ⟨⟨hP, hK, hN⟩, hT⟩ := hv
  have hS : va_S (fun _ => False) s.heap s.heap [] := va_S.rf
  refine lv_aload_n hx hb dX9_eventPipe_0 rfl (lv_at hl 0 rfl) ?_
  obtain ⟨k_1, hk_1⟩ := frc_hub F
  refine va_get (D := D) (ci := 14) (v := .ref (ad 13)) (C := RX9) (T := TX9) (N := 13) hx hb hts iw_X9_eventPipe_RX9 hown hK hP k_1 hk_1 rfl 11 (by decide) (hts (.fieldLink RX9 52 "Hubcascade" "events" "LHubcascade$Events;") (by decide +kernel)) (fun _ h9 => h9) rfl dX9_eventPipe_1 ?_
  obtain ⟨k_2, hk_2⟩ := frc_ev F
  refine va_getN (D := D) (ci := 8) (v := .int (-1)) (C := RX3) (T := TX3) (N := 10) hx hb hts iw_X9_eventPipe_RX3 hown hK hP k_2 hk_2 rfl 8 (by decide) (va_Nw.use rfl (hN.1 _ nf_11)) (fun _ h9 => h9) rfl dX9_eventPipe_4 ?_
  refine lv_if_ge (tgt := 21) hx hb dX9_eventPipe_7 (by decide) (fun c => absurd c (by decide)) (fun _ => ?_)
  exact th_throwNW (text := "no event was taken") (WS := wsX9_eventPipe) hx hb hst hts hown (by decide +kernel) hT (by decide +kernel) (by decide +kernel) (by decide +kernel) (by decide +kernel) (by decide +kernel) (by decide +kernel) (by decide +kernel) hS (hl.1.trans hml.symm) dX9_eventPipe_10 dX9_eventPipe_13 dX9_eventPipe_14 dX9_eventPipe_17 dX9_eventPipe_20 hout hlocks (by decide) (by decide) (Nat.le_refl _) (Nat.le_refl _) (Nat.le_refl _) (Nat.le_refl _)

theorem iw_X9_eventBytes_RX3 : ∀ w ∈ u_ws RX3 TX3 10, w ∈ wsX9_eventBytes := by decide +kernel
theorem iw_X9_eventBytes_RX9 : ∀ w ∈ u_ws RX9 TX9 13, w ∈ wsX9_eventBytes := by decide +kernel
set_option maxRecDepth 100000 in
set_option maxHeartbeats 4000000 in
theorem c_eventBytes_x1 (l : Launch) (D : va_G) (cy : Nat → ClassId) {ad : Nat → Nat} {rw_ : Nat → Nat → Option Nat} {w : va_W} (F : FrC cy ad rw_ w) (hst : l.stackTraces = false) : TH l D cy w yX9_eventBytes wsX9_eventBytes 6 82 [.ref (ad 0)] "java/util/NoSuchElementException" := by
  refine th_ofW (cc := cX9_eventBytes) (maxL := 1) (ret := (some .int)) (lv := [(0, .ref (ad 0))]) (by decide) rfl (Nat.le_of_ble_eq_true rfl) rfl ?_
  intro p e s m below meth c ls hx hb hr hml hown hlocks hout hts hv hl
  have hown : s.vm.findClass RX9 = some m.cls := hown
  obtain ⟨⟨hP, hK, hN⟩, hT⟩ := hv
  have hS : va_S (fun _ => False) s.heap s.heap [] := va_S.rf
  refine lv_aload_n hx hb dX9_eventBytes_0 rfl (lv_at hl 0 rfl) ?_
  obtain ⟨k_1, hk_1⟩ := frc_hub F
  refine va_get (D := D) (ci := 14) (v := .ref (ad 13)) (C := RX9) (T := TX9) (N := 13) hx hb hts iw_X9_eventBytes_RX9 hown hK hP k_1 hk_1 rfl 11 (by decide) (hts (.fieldLink RX9 52 "Hubcascade" "events" "LHubcascade$Events;") (by decide +kernel)) (fun _ h9 => h9) rfl dX9_eventBytes_1 ?_
  obtain ⟨k_2, hk_2⟩ := frc_ev F
  refine va_getN (D := D) (ci := 8) (v := .int (-1)) (C := RX3) (T := TX3) (N := 10) hx hb hts iw_X9_eventBytes_RX3 hown hK hP k_2 hk_2 rfl 8 (by decide) (va_Nw.use rfl (hN.1 _ nf_11)) (fun _ h9 => h9) rfl dX9_eventBytes_4 ?_
  refine lv_if_ge (tgt := 21) hx hb dX9_eventBytes_7 (by decide) (fun c => absurd c (by decide)) (fun _ => ?_)
  exact th_throwNW (text := "no event was taken") (WS := wsX9_eventBytes) hx hb hst hts hown (by decide +kernel) hT (by decide +kernel) (by decide +kernel) (by decide +kernel) (by decide +kernel) (by decide +kernel) (by decide +kernel) (by decide +kernel) hS (hl.1.trans hml.symm) dX9_eventBytes_10 dX9_eventBytes_13 dX9_eventBytes_14 dX9_eventBytes_17 dX9_eventBytes_20 hout hlocks (by decide) (by decide) (Nat.le_refl _) (Nat.le_refl _) (Nat.le_refl _) (Nat.le_refl _)

theorem iw_X9_busyShare_RX9 : ∀ w ∈ u_ws RX9 TX9 13, w ∈ wsX9_busyShare := by decide +kernel
set_option maxRecDepth 100000 in
set_option maxHeartbeats 4000000 in
theorem c_busyShare_x1 (l : Launch) (D : va_G) (cy : Nat → ClassId) {ad : Nat → Nat} {rw_ : Nat → Nat → Option Nat} {w : va_W} (F : FrC cy ad rw_ w) (hst : l.stackTraces = false) : TH l D cy w yX9_busyShare wsX9_busyShare 6 82 [.ref (ad 0)] "java/lang/ArithmeticException" := by
  refine th_ofW (cc := cX9_busyShare) (maxL := 1) (ret := (some .float)) (lv := [(0, .ref (ad 0))]) (by decide) rfl (Nat.le_of_ble_eq_true rfl) rfl ?_
  intro p e s m below meth c ls hx hb hr hml hown hlocks hout hts hv hl
  have hown : s.vm.findClass RX9 = some m.cls := hown
  obtain ⟨⟨hP, hK, hN⟩, hT⟩ := hv
  have hS : va_S (fun _ => False) s.heap s.heap [] := va_S.rf
  refine lv_aload_n hx hb dX9_busyShare_0 rfl (lv_at hl 0 rfl) ?_
  obtain ⟨k_1, hk_1⟩ := frc_hub F
  refine va_get (D := D) (ci := 14) (v := .int 0) (C := RX9) (T := TX9) (N := 13) hx hb hts iw_X9_busyShare_RX9 hown hK hP k_1 hk_1 rfl 7 (by decide) (hts (.fieldLink RX9 252 "Hubcascade" "frames" "I") (by decide +kernel)) (fun _ h9 => h9) rfl dX9_busyShare_1 ?_
  refine lv_if_ne (tgt := 18) hx hb dX9_busyShare_4 (by decide) (fun c => absurd (by decide) c) (fun _ => ?_)
  exact th_throwSW (text := "there was no frame") (WS := wsX9_busyShare) hx hb hst hts hown (by decide +kernel) hT (by decide +kernel) (by decide +kernel) (by decide +kernel) (by decide +kernel) (by decide +kernel) (by decide +kernel) (by decide +kernel) hS (hl.1.trans hml.symm) dX9_busyShare_7 dX9_busyShare_10 dX9_busyShare_11 dX9_busyShare_14 dX9_busyShare_17 hout hlocks (by decide) (by decide) (Nat.le_refl _) (Nat.le_refl _) (Nat.le_refl _) (Nat.le_refl _)

theorem iw_X9_meanBytes_RX3 : ∀ w ∈ u_ws RX3 TX3 10, w ∈ wsX9_meanBytes := by decide +kernel
theorem iw_X9_meanBytes_RX9 : ∀ w ∈ u_ws RX9 TX9 13, w ∈ wsX9_meanBytes := by decide +kernel
set_option maxRecDepth 100000 in
set_option maxHeartbeats 4000000 in
theorem c_meanBytes_x1 (l : Launch) (D : va_G) (cy : Nat → ClassId) {ad : Nat → Nat} {rw_ : Nat → Nat → Option Nat} {w : va_W} (F : FrC cy ad rw_ w) (hst : l.stackTraces = false) : TH l D cy w yX9_meanBytes wsX9_meanBytes 6 82 [.ref (ad 0)] "java/lang/ArithmeticException" := by
  refine th_ofW (cc := cX9_meanBytes) (maxL := 1) (ret := (some .double)) (lv := [(0, .ref (ad 0))]) (by decide) rfl (Nat.le_of_ble_eq_true rfl) rfl ?_
  intro p e s m below meth c ls hx hb hr hml hown hlocks hout hts hv hl
  have hown : s.vm.findClass RX9 = some m.cls := hown
  obtain ⟨⟨hP, hK, hN⟩, hT⟩ := hv
  have hS : va_S (fun _ => False) s.heap s.heap [] := va_S.rf
  refine lv_aload_n hx hb dX9_meanBytes_0 rfl (lv_at hl 0 rfl) ?_
  obtain ⟨k_1, hk_1⟩ := frc_hub F
  refine va_get (D := D) (ci := 14) (v := .ref (ad 13)) (C := RX9) (T := TX9) (N := 13) hx hb hts iw_X9_meanBytes_RX9 hown hK hP k_1 hk_1 rfl 11 (by decide) (hts (.fieldLink RX9 52 "Hubcascade" "events" "LHubcascade$Events;") (by decide +kernel)) (fun _ h9 => h9) rfl dX9_meanBytes_1 ?_
  obtain ⟨k_2, hk_2⟩ := frc_ev F
  refine va_getN (D := D) (ci := 8) (v := .int 0) (C := RX3) (T := TX3) (N := 10) hx hb hts iw_X9_meanBytes_RX3 hown hK hP k_2 hk_2 rfl 6 (by decide) (va_Nw.use rfl (hN.1 _ nf_9)) (fun _ h9 => h9) rfl dX9_meanBytes_4 ?_
  refine lv_if_ne (tgt := 21) hx hb dX9_meanBytes_7 (by decide) (fun c => absurd (by decide) c) (fun _ => ?_)
  exact th_throwSW (text := "no transfer is over") (WS := wsX9_meanBytes) hx hb hst hts hown (by decide +kernel) hT (by decide +kernel) (by decide +kernel) (by decide +kernel) (by decide +kernel) (by decide +kernel) (by decide +kernel) (by decide +kernel) hS (hl.1.trans hml.symm) dX9_meanBytes_10 dX9_meanBytes_13 dX9_meanBytes_14 dX9_meanBytes_17 dX9_meanBytes_20 hout hlocks (by decide) (by decide) (Nat.le_refl _) (Nat.le_refl _) (Nat.le_refl _) (Nat.le_refl _)

theorem iw_X9_sixteen_RX0 : ∀ w ∈ u_ws RX0 TX0 4, w ∈ wsX9_sixteen := by decide +kernel
theorem iw_X9_sixteen_RX9 : ∀ w ∈ u_ws RX9 TX9 13, w ∈ wsX9_sixteen := by decide +kernel
set_option maxRecDepth 100000 in
set_option maxHeartbeats 4000000 in
theorem c_sixteen_ok (l : Launch) (D : va_G) (cy : Nat → ClassId) {ad : Nat → Nat} {rw_ : Nat → Nat → Option Nat} {w : va_W} (F : FrC cy ad rw_ w) : RO l D cy w yX9_sixteen wsX9_sixteen 0 0 [.ref (ad 0)] (some (.int 0)) := by
  refine ro_ofW (cc := cX9_sixteen) (maxL := 5) (ret := (some .int)) (lv := [(0, .ref (ad 0))]) (by decide) rfl (Nat.le_of_ble_eq_true rfl) rfl ?_
  intro p e s m below meth c ls hx hb hr hml hown hlocks hname hts hv hl
  have hown : s.vm.findClass RX9 = some m.cls := hown
  obtain ⟨hP, hK, hN⟩ := hv
  have hS : va_S (fun _ => False) s.heap s.heap [] := va_S.rf
  refine lv_ldcw hx hb hown (hts (.constant RX9 277 (65535)) (by decide +kernel)) dX9_sixteen_0 ?_
  refine lv_istore_n (lv' := [(1, .int 65535), (0, .ref (ad 0))]) hx hb dX9_sixteen_3 rfl hl (by decide) rfl (fun ls hl => ?_)
  refine lv_iconst (v := 0) hx hb dX9_sixteen_4 (by decide) ?_
  refine lv_istore_n (lv' := [(2, .int 0), (1, .int 65535), (0, .ref (ad 0))]) hx hb dX9_sixteen_5 rfl hl (by decide) rfl (fun ls hl => ?_)
  refine lv_iload_n hx hb dX9_sixteen_6 rfl (lv_at hl 0 rfl) ?_
  refine lv_aload_n hx hb dX9_sixteen_7 rfl (lv_at hl 2 rfl) ?_
  obtain ⟨k_1, hk_1⟩ := frc_hub F
  refine va_get (D := D) (ci := 14) (v := .ref (ad 5)) (C := RX9) (T := TX9) (N := 13) hx hb hts iw_X9_sixteen_RX9 hown hK hP k_1 hk_1 rfl 8 (by decide) (hts (.fieldLink RX9 35 "Hubcascade" "typed" "LHubcascade$ByteRow;") (by decide +kernel)) (fun _ h9 => h9) rfl dX9_sixteen_8 ?_
  obtain ⟨k_2, hk_2⟩ := frc_ty F
  refine va_getN (D := D) (ci := 5) (v := .int 0) (C := RX0) (T := TX0) (N := 4) hx hb hts iw_X9_sixteen_RX0 hown hK hP k_2 hk_2 rfl 2 (by decide) (va_Nw.use rfl (hN.1 _ nf_0)) (fun _ h9 => h9) rfl dX9_sixteen_11 ?_
  refine lv_icmp_ge (tgt := 64) hx hb dX9_sixteen_14 (by decide) (fun _ => ?_) (fun c => absurd (by decide) c)
  refine lv_ldcw hx hb hown (hts (.constant RX9 277 (65535)) (by decide +kernel)) dX9_sixteen_64 ?_
  refine lv_iload_n hx hb dX9_sixteen_67 rfl (lv_at hl 1 rfl) ?_
  refine lv_isub hx hb dX9_sixteen_68 ?_
  refine lv_topi (fun y ey => ?_)
  obtain rfl : y = 0 := ey.trans (by decide)
  exact W.iret hx hb hr (fun t ht hW => ⟨rfl, hS.F ht⟩) hS.2.2 dX9_sixteen_69

theorem iw_X9_stuffed_RX0 : ∀ w ∈ u_ws RX0 TX0 4, w ∈ wsX9_stuffed := by decide +kernel
theorem iw_X9_stuffed_RX9 : ∀ w ∈ u_ws RX9 TX9 13, w ∈ wsX9_stuffed := by decide +kernel
set_option maxRecDepth 100000 in
set_option maxHeartbeats 4000000 in
theorem c_stuffed_ok (l : Launch) (D : va_G) (cy : Nat → ClassId) {ad : Nat → Nat} {rw_ : Nat → Nat → Option Nat} {w : va_W} (F : FrC cy ad rw_ w) : RO l D cy w yX9_stuffed wsX9_stuffed 0 0 [.ref (ad 0)] (some (.int 0)) := by
  refine ro_ofW (cc := cX9_stuffed) (maxL := 6) (ret := (some .int)) (lv := [(0, .ref (ad 0))]) (by decide) rfl (Nat.le_of_ble_eq_true rfl) rfl ?_
  intro p e s m below meth c ls hx hb hr hml hown hlocks hname hts hv hl
  have hown : s.vm.findClass RX9 = some m.cls := hown
  obtain ⟨hP, hK, hN⟩ := hv
  have hS : va_S (fun _ => False) s.heap s.heap [] := va_S.rf
  refine lv_iconst (v := 0) hx hb dX9_stuffed_0 (by decide) ?_
  refine lv_istore_n (lv' := [(1, .int 0), (0, .ref (ad 0))]) hx hb dX9_stuffed_1 rfl hl (by decide) rfl (fun ls hl => ?_)
  refine lv_iconst (v := 0) hx hb dX9_stuffed_2 (by decide) ?_
  refine lv_istore_n (lv' := [(2, .int 0), (1, .int 0), (0, .ref (ad 0))]) hx hb dX9_stuffed_3 rfl hl (by decide) rfl (fun ls hl => ?_)
  refine lv_iconst (v := 0) hx hb dX9_stuffed_4 (by decide) ?_
  refine lv_istore_n (lv' := [(3, .int 0), (2, .int 0), (1, .int 0), (0, .ref (ad 0))]) hx hb dX9_stuffed_5 rfl hl (by decide) rfl (fun ls hl => ?_)
  refine lv_iload_n hx hb dX9_stuffed_6 rfl (lv_at hl 0 rfl) ?_
  refine lv_aload_n hx hb dX9_stuffed_7 rfl (lv_at hl 3 rfl) ?_
  obtain ⟨k_1, hk_1⟩ := frc_hub F
  refine va_get (D := D) (ci := 14) (v := .ref (ad 5)) (C := RX9) (T := TX9) (N := 13) hx hb hts iw_X9_stuffed_RX9 hown hK hP k_1 hk_1 rfl 8 (by decide) (hts (.fieldLink RX9 35 "Hubcascade" "typed" "LHubcascade$ByteRow;") (by decide +kernel)) (fun _ h9 => h9) rfl dX9_stuffed_8 ?_
  obtain ⟨k_2, hk_2⟩ := frc_ty F
  refine va_getN (D := D) (ci := 5) (v := .int 0) (C := RX0) (T := TX0) (N := 4) hx hb hts iw_X9_stuffed_RX0 hown hK hP k_2 hk_2 rfl 2 (by decide) (va_Nw.use rfl (hN.1 _ nf_0)) (fun _ h9 => h9) rfl dX9_stuffed_11 ?_
  refine lv_icmp_ge (tgt := 82) hx hb dX9_stuffed_14 (by decide) (fun _ => ?_) (fun c => absurd (by decide) c)
  refine lv_iload_n hx hb dX9_stuffed_82 rfl (lv_at hl 2 rfl) ?_
  exact W.iret hx hb hr (fun t ht hW => ⟨rfl, hS.F ht⟩) hS.2.2 dX9_stuffed_83

theorem iw_X9_left_RX9 : ∀ w ∈ u_ws RX9 TX9 13, w ∈ wsX9_left := by decide +kernel
set_option maxRecDepth 100000 in
set_option maxHeartbeats 4000000 in
theorem c_left_x2a (l : Launch) (D : va_G) (cy : Nat → ClassId) {ad : Nat → Nat} {rw_ : Nat → Nat → Option Nat} {w : va_W} (F : FrC cy ad rw_ w) (hst : l.stackTraces = false) : TH l D cy w yX9_left wsX9_left 6 82 [.ref (ad 0), .int (-1)] "java/util/NoSuchElementException" := by
  refine th_ofW (cc := cX9_left) (maxL := 3) (ret := (some .int)) (lv := [(0, .ref (ad 0)), (1, .int (-1))]) (by decide) rfl (Nat.le_of_ble_eq_true rfl) rfl ?_
  intro p e s m below meth c ls hx hb hr hml hown hlocks hout hts hv hl
  have hown : s.vm.findClass RX9 = some m.cls := hown
  obtain ⟨⟨hP, hK, hN⟩, hT⟩ := hv
  have hS : va_S (fun _ => False) s.heap s.heap [] := va_S.rf
  refine lv_iload_n hx hb dX9_left_0 rfl (lv_at hl 1 rfl) ?_
  refine lv_iconst (v := (-1)) hx hb dX9_left_1 (by decide) ?_
  refine lv_icmp_ne (tgt := 9) hx hb dX9_left_2 (by decide) (fun c => absurd (by decide) c) (fun _ => ?_)
  refine lv_iconst (v := (-1)) hx hb dX9_left_5 (by decide) ?_
  refine lv_goto (tgt := 17) hx hb dX9_left_6 (by decide) ?_
  refine lv_istore_n (lv' := [(2, .int (-1)), (0, .ref (ad 0)), (1, .int (-1))]) hx hb dX9_left_17 rfl hl (by decide) rfl (fun ls hl => ?_)
  refine lv_aload_n hx hb dX9_left_18 rfl (lv_at hl 1 rfl) ?_
  obtain ⟨k_1, hk_1⟩ := frc_hub F
  refine va_get (D := D) (ci := 14) (v := .int 0) (C := RX9) (T := TX9) (N := 13) hx hb hts iw_X9_left_RX9 hown hK hP k_1 hk_1 rfl 7 (by decide) (hts (.fieldLink RX9 252 "Hubcascade" "frames" "I") (by decide +kernel)) (fun _ h9 => h9) rfl dX9_left_19 ?_
  refine lv_if_ne (tgt := 36) hx hb dX9_left_22 (by decide) (fun c => absurd (by decide) c) (fun _ => ?_)
  exact th_throwNW (text := "there was no frame") (WS := wsX9_left) hx hb hst hts hown (by decide +kernel) hT (by decide +kernel) (by decide +kernel) (by decide +kernel) (by decide +kernel) (by decide +kernel) (by decide +kernel) (by decide +kernel) hS (hl.1.trans hml.symm) dX9_left_25 dX9_left_28 dX9_left_29 dX9_left_32 dX9_left_35 hout hlocks (by decide) (by decide) (Nat.le_refl _) (Nat.le_refl _) (Nat.le_refl _) (Nat.le_refl _)

theorem iw_X9_left_RX1 : ∀ w ∈ u_ws RX1 TX1 20, w ∈ wsX9_left := by decide +kernel
set_option maxRecDepth 100000 in
set_option maxHeartbeats 4000000 in
theorem c_left_x2b (l : Launch) (D : va_G) (cy : Nat → ClassId) {ad : Nat → Nat} {rw_ : Nat → Nat → Option Nat} {w : va_W} (F : FrC cy ad rw_ w) (hst : l.stackTraces = false) : TH l D cy w yX9_left wsX9_left 6 82 [.ref (ad 0), .int 0] "java/util/NoSuchElementException" := by
  refine th_ofW (cc := cX9_left) (maxL := 3) (ret := (some .int)) (lv := [(0, .ref (ad 0)), (1, .int 0)]) (by decide) rfl (Nat.le_of_ble_eq_true rfl) rfl ?_
  intro p e s m below meth c ls hx hb hr hml hown hlocks hout hts hv hl
  have hown : s.vm.findClass RX9 = some m.cls := hown
  obtain ⟨⟨hP, hK, hN⟩, hT⟩ := hv
  have hS : va_S (fun _ => False) s.heap s.heap [] := va_S.rf
  refine lv_iload_n hx hb dX9_left_0 rfl (lv_at hl 1 rfl) ?_
  refine lv_iconst (v := (-1)) hx hb dX9_left_1 (by decide) ?_
  refine lv_icmp_ne (tgt := 9) hx hb dX9_left_2 (by decide) (fun _ => ?_) (fun c => absurd c (by decide))
  refine lv_aload_n hx hb dX9_left_9 rfl (lv_at hl 0 rfl) ?_
  refine lv_iload_n hx hb dX9_left_10 rfl (lv_at hl 1 rfl) ?_
  obtain ⟨k_1, hk_1⟩ := frc_hub F
  refine ro_callV (As := [.int 0]) (rest := []) ⟨hx, hb, hml, hown, hts⟩ (c_deviceAt_ok l D cy F) (cwV 1 hts gX9_left_X9_deviceAt rfl rfl rfl (by decide +kernel) ⟨by decide, by decide⟩) hK hN hP hS (ci := 14) rfl hk_1 rfl rfl hl.1 rfl (Nat.le_of_ble_eq_true rfl) dX9_left_11 ⟨Nat.le_of_ble_eq_true rfl, Nat.le_of_ble_eq_true rfl⟩ (fun H locs hP hS => ?_)
  obtain ⟨k_2, hk_2⟩ := frc_d0 F
  refine va_getN (D := D) (ci := 6) (v := .int 0) (C := RX1) (T := TX1) (N := 20) hx hb hts iw_X9_left_RX1 hown hK hP k_2 hk_2 rfl 0 (by decide) (va_Nw.use rfl (hN.1 _ nf_31)) (fun _ h9 => h9) rfl dX9_left_14 ?_
  refine lv_istore_n (lv' := [(2, .int 0), (0, .ref (ad 0)), (1, .int 0)]) hx hb dX9_left_17 rfl hl (by decide) rfl (fun ls hl => ?_)
  refine lv_aload_n hx hb dX9_left_18 rfl (lv_at hl 1 rfl) ?_
  refine va_get (D := D) (ci := 14) (v := .int 0) (C := RX9) (T := TX9) (N := 13) hx hb hts iw_X9_left_RX9 hown hK hP k_1 hk_1 rfl 7 (by decide) (hts (.fieldLink RX9 252 "Hubcascade" "frames" "I") (by decide +kernel)) (fun _ h9 => h9) rfl dX9_left_19 ?_
  refine lv_if_ne (tgt := 36) hx hb dX9_left_22 (by decide) (fun c => absurd (by decide) c) (fun _ => ?_)
  exact th_throwNW (text := "there was no frame") (WS := wsX9_left) hx hb hst hts hown (by decide +kernel) hT (by decide +kernel) (by decide +kernel) (by decide +kernel) (by decide +kernel) (by decide +kernel) (by decide +kernel) (by decide +kernel) hS (hl.1.trans hml.symm) dX9_left_25 dX9_left_28 dX9_left_29 dX9_left_32 dX9_left_35 hout hlocks (by decide) (by decide) (Nat.le_refl _) (Nat.le_refl _) (Nat.le_refl _) (Nat.le_refl _)
