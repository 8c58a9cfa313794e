theorem my_nlt_le {a b : Int32} (h : a ≤ b) : ¬ b < a := fun q => by
  rw [Int32.le_iff_toInt_le] at h
  rw [Int32.lt_iff_toInt_lt] at q
  omega
theorem my_hi {j k : Nat} {c : Int32} (hc : c = nI k) (h : j ≤ k) (hk : k < 2 ^ 31) : ¬ c < nI j := by
  subst hc
  exact nI_nlt h hk
theorem my_lo {j k : Nat} {c : Int32} (hc : c = nI k) (h : k ≤ j) (hj : j < 2 ^ 31) : ¬ nI j < c := by
  subst hc
  exact nI_nlt h hj

set_option maxRecDepth 100000 in
set_option maxHeartbeats 4000000 in
theorem c_isSpeed_t (l : Launch) (D : va_G) (cy : Nat → ClassId) (w : va_W) (q : Int32) (h : (q = 108 ∨ q = 102 ∨ q = 104)) : RO l D cy w yX9_isSpeed wsX9_isSpeed 0 0 [.int q] (some (.int 1)) := by
  refine ro_ofW (cc := cX9_isSpeed) (maxL := 1) (ret := (some .boolean)) (lv := [(0, .int q)]) (by decide) rfl (Nat.le_of_ble_eq_true rfl) rfl ?_
  intro p e s m below meth c ls hx hb hr hml hown hlocks hname hts hv hl
  have hown : s.vm.findClass RX9 = some m.cls := hown
  obtain ⟨hP, hK, hN⟩ := hv
  have hS : va_S (fun _ => False) s.heap s.heap [] := va_S.rf
  refine lv_iload_n hx hb dX9_isSpeed_0 rfl (lv_at hl 0 rfl) ?_
  refine lv_bipush (v := 108) hx hb dX9_isSpeed_1 (by decide) ?_
  refine lv_icmp_eq (tgt := 18) hx hb dX9_isSpeed_3 (by decide) (fun c3 => ?_) (fun c3 => ?_)
  · refine lv_iconst (v := 1) hx hb dX9_isSpeed_18 (by decide) ?_
    refine lv_goto (tgt := 23) hx hb dX9_isSpeed_19 (by decide) ?_
    exact W.zret hx hb hr (by decide) (fun t ht hW => ⟨rfl, hS.F ht⟩) hS.2.2 dX9_isSpeed_23
  · refine lv_iload_n hx hb dX9_isSpeed_6 rfl (lv_at hl 0 rfl) ?_
    refine lv_bipush (v := 102) hx hb dX9_isSpeed_7 (by decide) ?_
    refine lv_icmp_eq (tgt := 18) hx hb dX9_isSpeed_9 (by decide) (fun c9 => ?_) (fun c9 => ?_)
    · refine lv_iconst (v := 1) hx hb dX9_isSpeed_18 (by decide) ?_
      refine lv_goto (tgt := 23) hx hb dX9_isSpeed_19 (by decide) ?_
      exact W.zret hx hb hr (by decide) (fun t ht hW => ⟨rfl, hS.F ht⟩) hS.2.2 dX9_isSpeed_23
    · refine lv_iload_n hx hb dX9_isSpeed_12 rfl (lv_at hl 0 rfl) ?_
      refine lv_bipush (v := 104) hx hb dX9_isSpeed_13 (by decide) ?_
      refine lv_icmp_ne (tgt := 22) hx hb dX9_isSpeed_15 (by decide) (fun c => absurd ((h.resolve_left c3).resolve_left c9) c) (fun _ => ?_)
      refine lv_iconst (v := 1) hx hb dX9_isSpeed_18 (by decide) ?_
      refine lv_goto (tgt := 23) hx hb dX9_isSpeed_19 (by decide) ?_
      exact W.zret hx hb hr (by decide) (fun t ht hW => ⟨rfl, hS.F ht⟩) hS.2.2 dX9_isSpeed_23

set_option maxRecDepth 100000 in
set_option maxHeartbeats 4000000 in
theorem c_isSpeed_f (l : Launch) (D : va_G) (cy : Nat → ClassId) (w : va_W) (q : Int32) (h : ¬ (q = 108 ∨ q = 102 ∨ q = 104)) : RO l D cy w yX9_isSpeed wsX9_isSpeed 0 0 [.int q] (some (.int 0)) := by
  refine ro_ofW (cc := cX9_isSpeed) (maxL := 1) (ret := (some .boolean)) (lv := [(0, .int q)]) (by decide) rfl (Nat.le_of_ble_eq_true rfl) rfl ?_
  intro p e s m below meth c ls hx hb hr hml hown hlocks hname hts hv hl
  have hown : s.vm.findClass RX9 = some m.cls := hown
  obtain ⟨hP, hK, hN⟩ := hv
  have hS : va_S (fun _ => False) s.heap s.heap [] := va_S.rf
  refine lv_iload_n hx hb dX9_isSpeed_0 rfl (lv_at hl 0 rfl) ?_
  refine lv_bipush (v := 108) hx hb dX9_isSpeed_1 (by decide) ?_
  refine lv_icmp_eq (tgt := 18) hx hb dX9_isSpeed_3 (by decide) (fun c => absurd c (fun z => h (Or.inl z))) (fun _ => ?_)
  refine lv_iload_n hx hb dX9_isSpeed_6 rfl (lv_at hl 0 rfl) ?_
  refine lv_bipush (v := 102) hx hb dX9_isSpeed_7 (by decide) ?_
  refine lv_icmp_eq (tgt := 18) hx hb dX9_isSpeed_9 (by decide) (fun c => absurd c (fun z => h (Or.inr (Or.inl z)))) (fun _ => ?_)
  refine lv_iload_n hx hb dX9_isSpeed_12 rfl (lv_at hl 0 rfl) ?_
  refine lv_bipush (v := 104) hx hb dX9_isSpeed_13 (by decide) ?_
  refine lv_icmp_ne (tgt := 22) hx hb dX9_isSpeed_15 (by decide) (fun _ => ?_) (fun c => absurd c (fun z => h (Or.inr (Or.inr z))))
  refine lv_iconst (v := 0) hx hb dX9_isSpeed_22 (by decide) ?_
  exact W.zret hx hb hr (by decide) (fun t ht hW => ⟨rfl, hS.F ht⟩) hS.2.2 dX9_isSpeed_23

set_option maxRecDepth 100000 in
set_option maxHeartbeats 4000000 in
theorem c_make_x1 (l : Launch) (D : va_G) (cy : Nat → ClassId) {ad : Nat → Nat} {rw_ : Nat → Nat → Option Nat} {w : va_W} (F : FrC cy ad rw_ w) (hst : l.stackTraces = false) (q a b o z : Int32) (h : ¬ ((q = 108 ∨ q = 102 ∨ q = 104) ∧ (¬ a < 0 ∧ ¬ 4 < a) ∧ (¬ b < 1 ∧ ¬ 5 < b) ∧ (¬ z < 0 ∧ ¬ 99 < z) ∧ ¬ (q = 108 ∧ 0 < a))) : TH l D cy w yX9_make wsX9_make 6 82 [.ref (ad 0), .int q, .int a, .int b, .int o, .int z] "java/lang/IllegalArgumentException" := by
  refine th_ofW (cc := cX9_make) (maxL := 7) (ret := (some .int)) (lv := [(0, .ref (ad 0)), (1, .int q), (2, .int a), (3, .int b), (4, .int o), (5, .int z)]) (by decide) rfl (Nat.le_of_ble_eq_true rfl) rfl ?_
  intro p e s m below meth c ls hx hb hr hml hown hlocks hout hts hv hl
  have hown : s.vm.findClass RX9 = some m.cls := hown
  obtain ⟨⟨hP, hK, hN⟩, hT⟩ := hv
  have hS : va_S (fun _ => False) s.heap s.heap [] := va_S.rf
  refine lv_iload_n hx hb dX9_make_0 rfl (lv_at hl 1 rfl) ?_
  by_cases h1 : (q = 108 ∨ q = 102 ∨ q = 104)
  · refine ro_callS (As := [.int q]) (rest := []) ⟨hx, hb, hml, hown, hts⟩ (c_isSpeed_t l D cy w q h1) (va_cwS 1 hts gX9_make_X9_isSpeed rfl rfl rfl (by decide +kernel) ⟨by decide, by decide⟩) hK hN hP hS rfl hl.1 rfl (Nat.le_of_ble_eq_true rfl) dX9_make_1 ⟨Nat.le_of_ble_eq_true rfl, Nat.le_of_ble_eq_true rfl⟩ (fun H locs hP hS => ?_)
    refine lv_if_eq (tgt := 36) hx hb dX9_make_4 (by decide) (fun c => absurd c (by decide)) (fun _ => ?_)
    refine lv_iload_n hx hb dX9_make_7 rfl (lv_at hl 2 rfl) ?_
    refine lv_iconst (v := 0) hx hb dX9_make_8 (by decide) ?_
    refine lv_iconst (v := 4) hx hb dX9_make_9 (by decide) ?_
    by_cases h2 : (¬ a < 0 ∧ ¬ 4 < a)
    · refine ro_callS (As := [.int a, .int 0, .int 4]) (rest := []) ⟨hx, hb, hml, hown, hts⟩ (c_isWithin_t l D cy w _ _ _ h2.1 h2.2) (va_cwS 3 hts gX9_make_X9_isWithin rfl rfl rfl (by decide +kernel) ⟨by decide, by decide⟩) hK hN hP hS rfl hl.1 rfl (Nat.le_of_ble_eq_true rfl) dX9_make_10 ⟨Nat.le_of_ble_eq_true rfl, Nat.le_of_ble_eq_true rfl⟩ (fun H locs hP hS => ?_)
      refine lv_if_eq (tgt := 36) hx hb dX9_make_13 (by decide) (fun c => absurd c (by decide)) (fun _ => ?_)
      refine lv_iload_n hx hb dX9_make_16 rfl (lv_at hl 3 rfl) ?_
      refine lv_iconst (v := 1) hx hb dX9_make_17 (by decide) ?_
      refine lv_iconst (v := 5) hx hb dX9_make_18 (by decide) ?_
      by_cases h3 : (¬ b < 1 ∧ ¬ 5 < b)
      · refine ro_callS (As := [.int b, .int 1, .int 5]) (rest := []) ⟨hx, hb, hml, hown, hts⟩ (c_isWithin_t l D cy w _ _ _ h3.1 h3.2) (va_cwS 3 hts gX9_make_X9_isWithin rfl rfl rfl (by decide +kernel) ⟨by decide, by decide⟩) hK hN hP hS rfl hl.1 rfl (Nat.le_of_ble_eq_true rfl) dX9_make_19 ⟨Nat.le_of_ble_eq_true rfl, Nat.le_of_ble_eq_true rfl⟩ (fun H locs hP hS => ?_)
        refine lv_if_eq (tgt := 36) hx hb dX9_make_22 (by decide) (fun c => absurd c (by decide)) (fun _ => ?_)
        refine lv_iload hx hb dX9_make_25 (lv_at hl 5 rfl) ?_
        refine lv_iconst (v := 0) hx hb dX9_make_27 (by decide) ?_
        refine lv_bipush (v := 99) hx hb dX9_make_28 (by decide) ?_
        by_cases h4 : (¬ z < 0 ∧ ¬ 99 < z)
        · refine ro_callS (As := [.int z, .int 0, .int 99]) (rest := []) ⟨hx, hb, hml, hown, hts⟩ (c_isWithin_t l D cy w _ _ _ h4.1 h4.2) (va_cwS 3 hts gX9_make_X9_isWithin rfl rfl rfl (by decide +kernel) ⟨by decide, by decide⟩) hK hN hP hS rfl hl.1 rfl (Nat.le_of_ble_eq_true rfl) dX9_make_30 ⟨Nat.le_of_ble_eq_true rfl, Nat.le_of_ble_eq_true rfl⟩ (fun H locs hP hS => ?_)
          refine lv_if_ne (tgt := 46) hx hb dX9_make_33 (by decide) (fun _ => ?_) (fun c => absurd c (by decide))
          refine lv_iload_n hx hb dX9_make_46 rfl (lv_at hl 1 rfl) ?_
          refine lv_bipush (v := 108) hx hb dX9_make_47 (by decide) ?_
          refine lv_icmp_ne (tgt := 66) hx hb dX9_make_49 (by decide) (fun c49 => ?_) (fun c49 => ?_)
          · exact absurd ⟨h1, h2, h3, h4, fun y => by first | exact c49 y.1 | exact my_nlt_le c53 y.2⟩ h
          · refine lv_iload_n hx hb dX9_make_52 rfl (lv_at hl 2 rfl) ?_
            refine lv_if_le (tgt := 66) hx hb dX9_make_53 (by decide) (fun c53 => ?_) (fun c53 => ?_)
            · exact absurd ⟨h1, h2, h3, h4, fun y => by first | exact c49 y.1 | exact my_nlt_le c53 y.2⟩ h
            · exact th_throwS (text := "a hub is not low") (WS := wsX9_make) hx hb hst hts hown (by decide +kernel) hT (by decide +kernel) (by decide +kernel) (by decide +kernel) (by decide +kernel) (by decide +kernel) (by decide +kernel) (by decide +kernel) hS (hl.1.trans hml.symm) dX9_make_56 dX9_make_59 dX9_make_60 dX9_make_62 dX9_make_65 hout hlocks (by decide) (by decide) (Nat.le_refl _) (Nat.le_refl _) (Nat.le_refl _) (Nat.le_refl _)
        · refine ro_callS (As := [.int z, .int 0, .int 99]) (rest := []) ⟨hx, hb, hml, hown, hts⟩ (c_isWithin_f l D cy w _ _ _ (my_out h4)) (va_cwS 3 hts gX9_make_X9_isWithin rfl rfl rfl (by decide +kernel) ⟨by decide, by decide⟩) hK hN hP hS rfl hl.1 rfl (Nat.le_of_ble_eq_true rfl) dX9_make_30 ⟨Nat.le_of_ble_eq_true rfl, Nat.le_of_ble_eq_true rfl⟩ (fun H locs hP hS => ?_)
          refine lv_if_ne (tgt := 46) hx hb dX9_make_33 (by decide) (fun c => absurd (by decide) c) (fun _ => ?_)
          exact th_throwS (text := "no such device can be made") (WS := wsX9_make) hx hb hst hts hown (by decide +kernel) hT (by decide +kernel) (by decide +kernel) (by decide +kernel) (by decide +kernel) (by decide +kernel) (by decide +kernel) (by decide +kernel) hS (hl.1.trans hml.symm) dX9_make_36 dX9_make_39 dX9_make_40 dX9_make_42 dX9_make_45 hout hlocks (by decide) (by decide) (Nat.le_refl _) (Nat.le_refl _) (Nat.le_refl _) (Nat.le_refl _)
      · refine ro_callS (As := [.int b, .int 1, .int 5]) (rest := []) ⟨hx, hb, hml, hown, hts⟩ (c_isWithin_f l D cy w _ _ _ (my_out h3)) (va_cwS 3 hts gX9_make_X9_isWithin rfl rfl rfl (by decide +kernel) ⟨by decide, by decide⟩) hK hN hP hS rfl hl.1 rfl (Nat.le_of_ble_eq_true rfl) dX9_make_19 ⟨Nat.le_of_ble_eq_true rfl, Nat.le_of_ble_eq_true rfl⟩ (fun H locs hP hS => ?_)
        refine lv_if_eq (tgt := 36) hx hb dX9_make_22 (by decide) (fun _ => ?_) (fun c => absurd (by decide) c)
        exact th_throwS (text := "no such device can be made") (WS := wsX9_make) hx hb hst hts hown (by decide +kernel) hT (by decide +kernel) (by decide +kernel) (by decide +kernel) (by decide +kernel) (by decide +kernel) (by decide +kernel) (by decide +kernel) hS (hl.1.trans hml.symm) dX9_make_36 dX9_make_39 dX9_make_40 dX9_make_42 dX9_make_45 hout hlocks (by decide) (by decide) (Nat.le_refl _) (Nat.le_refl _) (Nat.le_refl _) (Nat.le_refl _)
    · refine ro_callS (As := [.int a, .int 0, .int 4]) (rest := []) ⟨hx, hb, hml, hown, hts⟩ (c_isWithin_f l D cy w _ _ _ (my_out h2)) (va_cwS 3 hts gX9_make_X9_isWithin rfl rfl rfl (by decide +kernel) ⟨by decide, by decide⟩) hK hN hP hS rfl hl.1 rfl (Nat.le_of_ble_eq_true rfl) dX9_make_10 ⟨Nat.le_of_ble_eq_true rfl, Nat.le_of_ble_eq_true rfl⟩ (fun H locs hP hS => ?_)
      refine lv_if_eq (tgt := 36) hx hb dX9_make_13 (by decide) (fun _ => ?_) (fun c => absurd (by decide) c)
      exact th_throwS (text := "no such device can be made") (WS := wsX9_make) hx hb hst hts hown (by decide +kernel) hT (by decide +kernel) (by decide +kernel) (by decide +kernel) (by decide +kernel) (by decide +kernel) (by decide +kernel) (by decide +kernel) hS (hl.1.trans hml.symm) dX9_make_36 dX9_make_39 dX9_make_40 dX9_make_42 dX9_make_45 hout hlocks (by decide) (by decide) (Nat.le_refl _) (Nat.le_refl _) (Nat.le_refl _) (Nat.le_refl _)
  · refine ro_callS (As := [.int q]) (rest := []) ⟨hx, hb, hml, hown, hts⟩ (c_isSpeed_f l D cy w q h1) (va_cwS 1 hts gX9_make_X9_isSpeed rfl rfl rfl (by decide +kernel) ⟨by decide, by decide⟩) hK hN hP hS rfl hl.1 rfl (Nat.le_of_ble_eq_true rfl) dX9_make_1 ⟨Nat.le_of_ble_eq_true rfl, Nat.le_of_ble_eq_true rfl⟩ (fun H locs hP hS => ?_)
    refine lv_if_eq (tgt := 36) hx hb dX9_make_4 (by decide) (fun _ => ?_) (fun c => absurd (by decide) c)
    exact th_throwS (text := "no such device can be made") (WS := wsX9_make) hx hb hst hts hown (by decide +kernel) hT (by decide +kernel) (by decide +kernel) (by decide +kernel) (by decide +kernel) (by decide +kernel) (by decide +kernel) (by decide +kernel) hS (hl.1.trans hml.symm) dX9_make_36 dX9_make_39 dX9_make_40 dX9_make_42 dX9_make_45 hout hlocks (by decide) (by decide) (Nat.le_refl _) (Nat.le_refl _) (Nat.le_refl _) (Nat.le_refl _)

theorem iw_X9_packets_RX6 : ∀ w ∈ u_ws RX6 TX6 3, w ∈ wsX9_packets := by decide +kernel
theorem iw_X9_packets_RX9 : ∀ w ∈ u_ws RX9 TX9 13, w ∈ wsX9_packets := by decide +kernel
set_option maxRecDepth 100000 in
set_option maxHeartbeats 4000000 in
theorem c_packets_t (l : Launch) (D : va_G) (cy : Nat → ClassId) {ad : Nat → Nat} {rw_ : Nat → Nat → Option Nat} {w : va_W} (F : FrC cy ad rw_ w) : RO l D cy w yX9_packets wsX9_packets 0 0 [.ref (ad 0), .int 116] (some (.int 0)) := by
  refine ro_ofW (cc := cX9_packets) (maxL := 2) (ret := (some .int)) (lv := [(0, .ref (ad 0)), (1, .int 116)]) (by decide) rfl (Nat.le_of_ble_eq_true rfl) rfl ?_
  intro p e s m below meth c ls hx hb hr hml hown hlocks hname hts hv hl
  have hown : s.vm.findClass RX9 = some m.cls := hown
  obtain ⟨hP, hK, hN⟩ := hv
  have hS : va_S (fun _ => False) s.heap s.heap [] := va_S.rf
  refine lv_iload_n hx hb dX9_packets_0 rfl (lv_at hl 1 rfl) ?_
  refine lv_bipush (v := 116) hx hb dX9_packets_1 (by decide) ?_
  refine lv_icmp_ne (tgt := 14) hx hb dX9_packets_3 (by decide) (fun c => absurd (by decide) c) (fun _ => ?_)
  refine lv_aload_n hx hb dX9_packets_6 rfl (lv_at hl 0 rfl) ?_
  obtain ⟨k_1, hk_1⟩ := frc_hub F
  refine va_get (D := D) (ci := 14) (v := .ref (ad 17)) (C := RX9) (T := TX9) (N := 13) hx hb hts iw_X9_packets_RX9 hown hK hP k_1 hk_1 rfl 12 (by decide) (hts (.fieldLink RX9 59 "Hubcascade" "sniffer" "LHubcascade$Sniffer;") (by decide +kernel)) (fun _ h9 => h9) rfl dX9_packets_7 ?_
  obtain ⟨k_2, hk_2⟩ := frc_sn F
  refine va_getN (D := D) (ci := 11) (v := .int 0) (C := RX6) (T := TX6) (N := 3) hx hb hts iw_X9_packets_RX6 hown hK hP k_2 hk_2 rfl 0 (by decide) (va_Nw.use rfl (hN.1 _ nf_13)) (fun _ h9 => h9) rfl dX9_packets_10 ?_
  exact W.iret hx hb hr (fun t ht hW => ⟨rfl, hS.F ht⟩) hS.2.2 dX9_packets_13

set_option maxRecDepth 100000 in
set_option maxHeartbeats 4000000 in
theorem c_packets_d (l : Launch) (D : va_G) (cy : Nat → ClassId) {ad : Nat → Nat} {rw_ : Nat → Nat → Option Nat} {w : va_W} (F : FrC cy ad rw_ w) : RO l D cy w yX9_packets wsX9_packets 0 0 [.ref (ad 0), .int 100] (some (.int 0)) := by
  refine ro_ofW (cc := cX9_packets) (maxL := 2) (ret := (some .int)) (lv := [(0, .ref (ad 0)), (1, .int 100)]) (by decide) rfl (Nat.le_of_ble_eq_true rfl) rfl ?_
  intro p e s m below meth c ls hx hb hr hml hown hlocks hname hts hv hl
  have hown : s.vm.findClass RX9 = some m.cls := hown
  obtain ⟨hP, hK, hN⟩ := hv
  have hS : va_S (fun _ => False) s.heap s.heap [] := va_S.rf
  refine lv_iload_n hx hb dX9_packets_0 rfl (lv_at hl 1 rfl) ?_
  refine lv_bipush (v := 116) hx hb dX9_packets_1 (by decide) ?_
  refine lv_icmp_ne (tgt := 14) hx hb dX9_packets_3 (by decide) (fun _ => ?_) (fun c => absurd c (by decide))
  refine lv_iload_n hx hb dX9_packets_14 rfl (lv_at hl 1 rfl) ?_
  refine lv_bipush (v := 100) hx hb dX9_packets_15 (by decide) ?_
  refine lv_icmp_ne (tgt := 28) hx hb dX9_packets_17 (by decide) (fun c => absurd (by decide) c) (fun _ => ?_)
  refine lv_aload_n hx hb dX9_packets_20 rfl (lv_at hl 0 rfl) ?_
  obtain ⟨k_1, hk_1⟩ := frc_hub F
  refine va_get (D := D) (ci := 14) (v := .ref (ad 17)) (C := RX9) (T := TX9) (N := 13) hx hb hts iw_X9_packets_RX9 hown hK hP k_1 hk_1 rfl 12 (by decide) (hts (.fieldLink RX9 59 "Hubcascade" "sniffer" "LHubcascade$Sniffer;") (by decide +kernel)) (fun _ h9 => h9) rfl dX9_packets_21 ?_
  obtain ⟨k_2, hk_2⟩ := frc_sn F
  refine va_getN (D := D) (ci := 11) (v := .int 0) (C := RX6) (T := TX6) (N := 3) hx hb hts iw_X9_packets_RX6 hown hK hP k_2 hk_2 rfl 1 (by decide) (va_Nw.use rfl (hN.1 _ nf_14)) (fun _ h9 => h9) rfl dX9_packets_24 ?_
  exact W.iret hx hb hr (fun t ht hW => ⟨rfl, hS.F ht⟩) hS.2.2 dX9_packets_27

set_option maxRecDepth 100000 in
set_option maxHeartbeats 4000000 in
theorem c_packets_h (l : Launch) (D : va_G) (cy : Nat → ClassId) {ad : Nat → Nat} {rw_ : Nat → Nat → Option Nat} {w : va_W} (F : FrC cy ad rw_ w) : RO l D cy w yX9_packets wsX9_packets 0 0 [.ref (ad 0), .int 104] (some (.int 0)) := by
  refine ro_ofW (cc := cX9_packets) (maxL := 2) (ret := (some .int)) (lv := [(0, .ref (ad 0)), (1, .int 104)]) (by decide) rfl (Nat.le_of_ble_eq_true rfl) rfl ?_
  intro p e s m below meth c ls hx hb hr hml hown hlocks hname hts hv hl
  have hown : s.vm.findClass RX9 = some m.cls := hown
  obtain ⟨hP, hK, hN⟩ := hv
  have hS : va_S (fun _ => False) s.heap s.heap [] := va_S.rf
  refine lv_iload_n hx hb dX9_packets_0 rfl (lv_at hl 1 rfl) ?_
  refine lv_bipush (v := 116) hx hb dX9_packets_1 (by decide) ?_
  refine lv_icmp_ne (tgt := 14) hx hb dX9_packets_3 (by decide) (fun _ => ?_) (fun c => absurd c (by decide))
  refine lv_iload_n hx hb dX9_packets_14 rfl (lv_at hl 1 rfl) ?_
  refine lv_bipush (v := 100) hx hb dX9_packets_15 (by decide) ?_
  refine lv_icmp_ne (tgt := 28) hx hb dX9_packets_17 (by decide) (fun _ => ?_) (fun c => absurd c (by decide))
  refine lv_iload_n hx hb dX9_packets_28 rfl (lv_at hl 1 rfl) ?_
  refine lv_bipush (v := 104) hx hb dX9_packets_29 (by decide) ?_
  refine lv_icmp_ne (tgt := 42) hx hb dX9_packets_31 (by decide) (fun c => absurd (by decide) c) (fun _ => ?_)
  refine lv_aload_n hx hb dX9_packets_34 rfl (lv_at hl 0 rfl) ?_
  obtain ⟨k_1, hk_1⟩ := frc_hub F
  refine va_get (D := D) (ci := 14) (v := .ref (ad 17)) (C := RX9) (T := TX9) (N := 13) hx hb hts iw_X9_packets_RX9 hown hK hP k_1 hk_1 rfl 12 (by decide) (hts (.fieldLink RX9 59 "Hubcascade" "sniffer" "LHubcascade$Sniffer;") (by decide +kernel)) (fun _ h9 => h9) rfl dX9_packets_35 ?_
  obtain ⟨k_2, hk_2⟩ := frc_sn F
  refine va_getN (D := D) (ci := 11) (v := .int 0) (C := RX6) (T := TX6) (N := 3) hx hb hts iw_X9_packets_RX6 hown hK hP k_2 hk_2 rfl 2 (by decide) (va_Nw.use rfl (hN.1 _ nf_15)) (fun _ h9 => h9) rfl dX9_packets_38 ?_
  exact W.iret hx hb hr (fun t ht hW => ⟨rfl, hS.F ht⟩) hS.2.2 dX9_packets_41

set_option maxRecDepth 100000 in
set_option maxHeartbeats 4000000 in
theorem c_packets_x1 (l : Launch) (D : va_G) (cy : Nat → ClassId) {ad : Nat → Nat} {rw_ : Nat → Nat → Option Nat} {w : va_W} (F : FrC cy ad rw_ w) (hst : l.stackTraces = false) (q : Int32) (h1 : ¬ q = 116) (h2 : ¬ q = 100) (h3 : ¬ q = 104) : TH l D cy w yX9_packets wsX9_packets 6 82 [.ref (ad 0), .int q] "java/lang/IllegalArgumentException" := by
  refine th_ofW (cc := cX9_packets) (maxL := 2) (ret := (some .int)) (lv := [(0, .ref (ad 0)), (1, .int q)]) (by decide) rfl (Nat.le_of_ble_eq_true rfl) rfl ?_
  intro p e s m below meth c ls hx hb hr hml hown hlocks hout hts hv hl
  have hown : s.vm.findClass RX9 = some m.cls := hown
  obtain ⟨⟨hP, hK, hN⟩, hT⟩ := hv
  have hS : va_S (fun _ => False) s.heap s.heap [] := va_S.rf
  refine lv_iload_n hx hb dX9_packets_0 rfl (lv_at hl 1 rfl) ?_
  refine lv_bipush (v := 116) hx hb dX9_packets_1 (by decide) ?_
  refine lv_icmp_ne (tgt := 14) hx hb dX9_packets_3 (by decide) (fun _ => ?_) (fun c => absurd c h1)
  refine lv_iload_n hx hb dX9_packets_14 rfl (lv_at hl 1 rfl) ?_
  refine lv_bipush (v := 100) hx hb dX9_packets_15 (by decide) ?_
  refine lv_icmp_ne (tgt := 28) hx hb dX9_packets_17 (by decide) (fun _ => ?_) (fun c => absurd c h2)
  refine lv_iload_n hx hb dX9_packets_28 rfl (lv_at hl 1 rfl) ?_
  refine lv_bipush (v := 104) hx hb dX9_packets_29 (by decide) ?_
  refine lv_icmp_ne (tgt := 42) hx hb dX9_packets_31 (by decide) (fun _ => ?_) (fun c => absurd c h3)
  exact th_throwSW (text := "no such thing is counted") (WS := wsX9_packets) hx hb hst hts hown (by decide +kernel) hT (by decide +kernel) (by decide +kernel) (by decide +kernel) (by decide +kernel) (by decide +kernel) (by decide +kernel) (by decide +kernel) hS (hl.1.trans hml.symm) dX9_packets_42 dX9_packets_45 dX9_packets_46 dX9_packets_49 dX9_packets_52 hout hlocks (by decide) (by decide) (Nat.le_refl _) (Nat.le_refl _) (Nat.le_refl _) (Nat.le_refl _)

set_option maxRecDepth 100000 in
set_option maxHeartbeats 4000000 in
theorem c_left_x1 (l : Launch) (D : va_G) (cy : Nat → ClassId) {ad : Nat → Nat} {rw_ : Nat → Nat → Option Nat} {w : va_W} (F : FrC cy ad rw_ w) (hst : l.stackTraces = false) (d : Int32) (hm : ¬ d = -1) (hd : ¬ d = 0) : TH l D cy w yX9_left wsX9_left 7 103 [.ref (ad 0), .int d] "java/lang/IndexOutOfBoundsException" := by
  refine th_ofW (cc := cX9_left) (maxL := 3) (ret := (some .int)) (lv := [(0, .ref (ad 0)), (1, .int d)]) (by decide) rfl (Nat.le_of_ble_eq_true rfl) rfl ?_
  intro p e s m below meth c ls hx hb hr hml hown hlocks hout hts hv hl
  have hown : s.vm.findClass RX9 = some m.cls := hown
  obtain ⟨⟨hP, hK, hN⟩, hT⟩ := hv
  have hS : va_S (fun _ => False) s.heap s.heap [] := va_S.rf
  refine lv_iload_n hx hb dX9_left_0 rfl (lv_at hl 1 rfl) ?_
  refine lv_iconst (v := (-1)) hx hb dX9_left_1 (by decide) ?_
  refine lv_icmp_ne (tgt := 9) hx hb dX9_left_2 (by decide) (fun _ => ?_) (fun c => absurd c hm)
  refine lv_aload_n hx hb dX9_left_9 rfl (lv_at hl 0 rfl) ?_
  refine lv_iload_n hx hb dX9_left_10 rfl (lv_at hl 1 rfl) ?_
  obtain ⟨k_1, hk_1⟩ := frc_hub F
  exact th_callV (As := [.int d]) (rest := []) ⟨hx, hb, hml, hown, hts⟩ (c_deviceAt_ex l D cy F hst d hd) (cwV 1 hts gX9_left_X9_deviceAt rfl rfl rfl (by decide +kernel) ⟨by decide, by decide⟩) hK hN hP hT hS (ci := 14) rfl hk_1 rfl rfl hl.1 rfl (Nat.le_of_ble_eq_true rfl) dX9_left_11 ⟨Nat.le_of_ble_eq_true rfl, Nat.le_of_ble_eq_true rfl⟩ hout hlocks (Nat.le_refl _) (Nat.le_refl _)

set_option maxRecDepth 100000 in
set_option maxHeartbeats 4000000 in
theorem c_reserved_x1 (l : Launch) (D : va_G) (cy : Nat → ClassId) {ad : Nat → Nat} {rw_ : Nat → Nat → Option Nat} {w : va_W} (F : FrC cy ad rw_ w) (hst : l.stackTraces = false) (n d : Int32) (hw : ¬ (¬ n < 0 ∧ ¬ 7 < n)) : TH l D cy w yX9_reserved wsX9_reserved 6 82 [.ref (ad 0), .int n, .int d] "java/lang/IllegalArgumentException" := by
  refine th_ofW (cc := cX9_reserved) (maxL := 3) (ret := (some .int)) (lv := [(0, .ref (ad 0)), (1, .int n), (2, .int d)]) (by decide) rfl (Nat.le_of_ble_eq_true rfl) rfl ?_
  intro p e s m below meth c ls hx hb hr hml hown hlocks hout hts hv hl
  have hown : s.vm.findClass RX9 = some m.cls := hown
  obtain ⟨⟨hP, hK, hN⟩, hT⟩ := hv
  have hS : va_S (fun _ => False) s.heap s.heap [] := va_S.rf
  refine lv_iload_n hx hb dX9_reserved_0 rfl (lv_at hl 1 rfl) ?_
  refine lv_iconst (v := 0) hx hb dX9_reserved_1 (by decide) ?_
  refine lv_bipush (v := 7) hx hb dX9_reserved_2 (by decide) ?_
  refine ro_callS (As := [.int n, .int 0, .int 7]) (rest := []) ⟨hx, hb, hml, hown, hts⟩ (c_isWithin_f l D cy w _ _ _ (my_out hw)) (va_cwS 3 hts gX9_reserved_X9_isWithin rfl rfl rfl (by decide +kernel) ⟨by decide, by decide⟩) hK hN hP hS rfl hl.1 rfl (Nat.le_of_ble_eq_true rfl) dX9_reserved_4 ⟨Nat.le_of_ble_eq_true rfl, Nat.le_of_ble_eq_true rfl⟩ (fun H locs hP hS => ?_)
  refine lv_if_ne (tgt := 21) hx hb dX9_reserved_7 (by decide) (fun c => absurd (by decide) c) (fun _ => ?_)
  exact th_throwSW (text := "no such frame") (WS := wsX9_reserved) hx hb hst hts hown (by decide +kernel) hT (by decide +kernel) (by decide +kernel) (by decide +kernel) (by decide +kernel) (by decide +kernel) (by decide +kernel) (by decide +kernel) hS (hl.1.trans hml.symm) dX9_reserved_10 dX9_reserved_13 dX9_reserved_14 dX9_reserved_17 dX9_reserved_20 hout hlocks (by decide) (by decide) (Nat.le_refl _) (Nat.le_refl _) (Nat.le_refl _) (Nat.le_refl _)

theorem iw_X9_reserved_RX8 : ∀ w ∈ u_ws RX8 TX8 5, w ∈ wsX9_reserved := by decide +kernel
theorem iw_X9_reserved_RX9 : ∀ w ∈ u_ws RX9 TX9 13, w ∈ wsX9_reserved := by decide +kernel
set_option maxRecDepth 100000 in
set_option maxHeartbeats 4000000 in
theorem c_reserved_okm (l : Launch) (D : va_G) (cy : Nat → ClassId) {ad : Nat → Nat} {rw_ : Nat → Nat → Option Nat} {w : va_W} (F : FrC cy ad rw_ w) (j : Nat) (hj : j < 8) : RO l D cy w yX9_reserved wsX9_reserved 1 22 [.ref (ad 0), .int (nI j), .int (-1)] (some (.int 0)) := by
  refine ro_ofW (cc := cX9_reserved) (maxL := 3) (ret := (some .int)) (lv := [(0, .ref (ad 0)), (1, .int (nI j)), (2, .int (-1))]) (by decide) rfl (Nat.le_of_ble_eq_true rfl) rfl ?_
  intro p e s m below meth c ls hx hb hr hml hown hlocks hname hts hv hl
  have hown : s.vm.findClass RX9 = some m.cls := hown
  obtain ⟨hP, hK, hN⟩ := hv
  have hS : va_S (fun _ => False) s.heap s.heap [] := va_S.rf
  refine lv_iload_n hx hb dX9_reserved_0 rfl (lv_at hl 1 rfl) ?_
  refine lv_iconst (v := 0) hx hb dX9_reserved_1 (by decide) ?_
  refine lv_bipush (v := 7) hx hb dX9_reserved_2 (by decide) ?_
  refine ro_callS (As := [.int (nI j), .int 0, .int 7]) (rest := []) ⟨hx, hb, hml, hown, hts⟩ (c_isWithin_t l D cy w _ _ _ (my_lo (k := 0) (by decide) (by omega) (by omega)) (my_hi (k := 7) (by decide) (by omega) (by decide))) (va_cwS 3 hts gX9_reserved_X9_isWithin rfl rfl rfl (by decide +kernel) ⟨by decide, by decide⟩) hK hN hP hS rfl hl.1 rfl (Nat.le_of_ble_eq_true rfl) dX9_reserved_4 ⟨Nat.le_of_ble_eq_true rfl, Nat.le_of_ble_eq_true rfl⟩ (fun H locs hP hS => ?_)
  refine lv_if_ne (tgt := 21) hx hb dX9_reserved_7 (by decide) (fun _ => ?_) (fun c => absurd c (by decide))
  refine lv_iload_n hx hb dX9_reserved_21 rfl (lv_at hl 2 rfl) ?_
  refine lv_iconst (v := (-1)) hx hb dX9_reserved_22 (by decide) ?_
  refine lv_icmp_ne (tgt := 36) hx hb dX9_reserved_23 (by decide) (fun c => absurd (by decide) c) (fun _ => ?_)
  refine lv_aload_n hx hb dX9_reserved_26 rfl (lv_at hl 0 rfl) ?_
  obtain ⟨k_1, hk_1⟩ := frc_hub F
  refine va_get (D := D) (ci := 14) (v := .ref (ad 9)) (C := RX9) (T := TX9) (N := 13) hx hb hts iw_X9_reserved_RX9 hown hK hP k_1 hk_1 rfl 10 (by decide) (hts (.fieldLink RX9 45 "Hubcascade" "units" "LHubcascade$Units;") (by decide +kernel)) (fun _ h9 => h9) rfl dX9_reserved_27 ?_
  obtain ⟨k_2, hk_2⟩ := frc_un F
  refine va_getN (D := D) (ci := 13) (v := .ref (ad 10)) (C := RX8) (T := TX8) (N := 5) hx hb hts iw_X9_reserved_RX8 hown hK hP k_2 hk_2 rfl 0 (by decide) (va_Nw.use rfl (hN.1 _ nf_2)) (fun _ h9 => h9) rfl dX9_reserved_30 ?_
  refine lv_iload_n hx hb dX9_reserved_33 rfl (lv_at hl 1 rfl) ?_
  obtain ⟨k_3, hk_3⟩ := frc_uh F
  refine va_iald (f := fun _ => 0) hx hb hK hP k_3 0 hk_3 rfl (vp_in_nI hj (by decide)) dX9_reserved_34 ?_
  exact W.iret hx hb hr (fun t ht hW => ⟨rfl, hS.F ht⟩) hS.2.2 dX9_reserved_35

theorem iw_X9_reserved_RX1 : ∀ w ∈ u_ws RX1 TX1 20, w ∈ wsX9_reserved := by decide +kernel
set_option maxRecDepth 100000 in
set_option maxHeartbeats 4000000 in
theorem c_reserved_ok0 (l : Launch) (D : va_G) (cy : Nat → ClassId) {ad : Nat → Nat} {rw_ : Nat → Nat → Option Nat} {w : va_W} (F : FrC cy ad rw_ w) (j : Nat) (hj : j < 8) : RO l D cy w yX9_reserved wsX9_reserved 1 22 [.ref (ad 0), .int (nI j), .int 0] (some (.int 0)) := by
  refine ro_ofW (cc := cX9_reserved) (maxL := 3) (ret := (some .int)) (lv := [(0, .ref (ad 0)), (1, .int (nI j)), (2, .int 0)]) (by decide) rfl (Nat.le_of_ble_eq_true rfl) rfl ?_
  intro p e s m below meth c ls hx hb hr hml hown hlocks hname hts hv hl
  have hown : s.vm.findClass RX9 = some m.cls := hown
  obtain ⟨hP, hK, hN⟩ := hv
  have hS : va_S (fun _ => False) s.heap s.heap [] := va_S.rf
  refine lv_iload_n hx hb dX9_reserved_0 rfl (lv_at hl 1 rfl) ?_
  refine lv_iconst (v := 0) hx hb dX9_reserved_1 (by decide) ?_
  refine lv_bipush (v := 7) hx hb dX9_reserved_2 (by decide) ?_
  refine ro_callS (As := [.int (nI j), .int 0, .int 7]) (rest := []) ⟨hx, hb, hml, hown, hts⟩ (c_isWithin_t l D cy w _ _ _ (my_lo (k := 0) (by decide) (by omega) (by omega)) (my_hi (k := 7) (by decide) (by omega) (by decide))) (va_cwS 3 hts gX9_reserved_X9_isWithin rfl rfl rfl (by decide +kernel) ⟨by decide, by decide⟩) hK hN hP hS rfl hl.1 rfl (Nat.le_of_ble_eq_true rfl) dX9_reserved_4 ⟨Nat.le_of_ble_eq_true rfl, Nat.le_of_ble_eq_true rfl⟩ (fun H locs hP hS => ?_)
  refine lv_if_ne (tgt := 21) hx hb dX9_reserved_7 (by decide) (fun _ => ?_) (fun c => absurd c (by decide))
  refine lv_iload_n hx hb dX9_reserved_21 rfl (lv_at hl 2 rfl) ?_
  refine lv_iconst (v := (-1)) hx hb dX9_reserved_22 (by decide) ?_
  refine lv_icmp_ne (tgt := 36) hx hb dX9_reserved_23 (by decide) (fun _ => ?_) (fun c => absurd c (by decide))
  refine lv_aload_n hx hb dX9_reserved_36 rfl (lv_at hl 0 rfl) ?_
  obtain ⟨k_1, hk_1⟩ := frc_hub F
  refine va_get (D := D) (ci := 14) (v := .ref (ad 9)) (C := RX9) (T := TX9) (N := 13) hx hb hts iw_X9_reserved_RX9 hown hK hP k_1 hk_1 rfl 10 (by decide) (hts (.fieldLink RX9 45 "Hubcascade" "units" "LHubcascade$Units;") (by decide +kernel)) (fun _ h9 => h9) rfl dX9_reserved_37 ?_
  obtain ⟨k_2, hk_2⟩ := frc_un F
  refine va_getN (D := D) (ci := 13) (v := .ref (ad 11)) (C := RX8) (T := TX8) (N := 5) hx hb hts iw_X9_reserved_RX8 hown hK hP k_2 hk_2 rfl 1 (by decide) (va_Nw.use rfl (hN.1 _ nf_3)) (fun _ h9 => h9) rfl dX9_reserved_40 ?_
  refine lv_aload_n hx hb dX9_reserved_43 rfl (lv_at hl 0 rfl) ?_
  refine lv_iload_n hx hb dX9_reserved_44 rfl (lv_at hl 2 rfl) ?_
  refine ro_callV (As := [.int 0]) (rest := [.ref (ad 11)]) ⟨hx, hb, hml, hown, hts⟩ (c_deviceAt_ok l D cy F) (cwV 1 hts gX9_reserved_X9_deviceAt rfl rfl rfl (by decide +kernel) ⟨by decide, by decide⟩) hK hN hP hS (ci := 14) rfl hk_1 rfl rfl hl.1 rfl (Nat.le_of_ble_eq_true rfl) dX9_reserved_45 ⟨Nat.le_of_ble_eq_true rfl, Nat.le_of_ble_eq_true rfl⟩ (fun H locs hP hS => ?_)
  obtain ⟨k_3, hk_3⟩ := frc_d0 F
  refine va_getN (D := D) (ci := 6) (v := .int 0) (C := RX1) (T := TX1) (N := 20) hx hb hts iw_X9_reserved_RX1 hown hK hP k_3 hk_3 rfl 0 (by decide) (va_Nw.use rfl (hN.1 _ nf_31)) (fun _ h9 => h9) rfl dX9_reserved_48 ?_
  refine lv_bipush (v := 8) hx hb dX9_reserved_51 (by decide) ?_
  refine lv_imul hx hb dX9_reserved_53 ?_
  refine lv_topi (fun y ey => ?_)
  obtain rfl : y = 0 := ey.trans (by decide)
  refine lv_iload_n hx hb dX9_reserved_54 rfl (lv_at hl 1 rfl) ?_
  refine lv_iadd hx hb dX9_reserved_55 ?_
  refine lv_topi (fun y ey => ?_)
  obtain rfl : y = nI j := ey.trans (Int32.zero_add _)
  obtain ⟨k_4, hk_4⟩ := frc_us F
  refine va_iald (f := fun _ => 0) hx hb hK hP k_4 0 hk_4 rfl (vp_in_nI (Nat.lt_trans hj (by decide)) (by decide)) dX9_reserved_56 ?_
  exact W.iret hx hb hr (fun t ht hW => ⟨rfl, hS.F ht⟩) hS.2.2 dX9_reserved_57

set_option maxRecDepth 100000 in
set_option maxHeartbeats 4000000 in
theorem c_reserved_x2 (l : Launch) (D : va_G) (cy : Nat → ClassId) {ad : Nat → Nat} {rw_ : Nat → Nat → Option Nat} {w : va_W} (F : FrC cy ad rw_ w) (hst : l.stackTraces = false) (j : Nat) (d : Int32) (hj : j < 8) (hm : ¬ d = -1) (hd : ¬ d = 0) : TH l D cy w yX9_reserved wsX9_reserved 7 103 [.ref (ad 0), .int (nI j), .int d] "java/lang/IndexOutOfBoundsException" := by
  refine th_ofW (cc := cX9_reserved) (maxL := 3) (ret := (some .int)) (lv := [(0, .ref (ad 0)), (1, .int (nI j)), (2, .int d)]) (by decide) rfl (Nat.le_of_ble_eq_true rfl) rfl ?_
  intro p e s m below meth c ls hx hb hr hml hown hlocks hout hts hv hl
  have hown : s.vm.findClass RX9 = some m.cls := hown
  obtain ⟨⟨hP, hK, hN⟩, hT⟩ := hv
  have hS : va_S (fun _ => False) s.heap s.heap [] := va_S.rf
  refine lv_iload_n hx hb dX9_reserved_0 rfl (lv_at hl 1 rfl) ?_
  refine lv_iconst (v := 0) hx hb dX9_reserved_1 (by decide) ?_
  refine lv_bipush (v := 7) hx hb dX9_reserved_2 (by decide) ?_
  refine ro_callS (As := [.int (nI j), .int 0, .int 7]) (rest := []) ⟨hx, hb, hml, hown, hts⟩ (c_isWithin_t l D cy w _ _ _ (my_lo (k := 0) (by decide) (by omega) (by omega)) (my_hi (k := 7) (by decide) (by omega) (by decide))) (va_cwS 3 hts gX9_reserved_X9_isWithin rfl rfl rfl (by decide +kernel) ⟨by decide, by decide⟩) hK hN hP hS rfl hl.1 rfl (Nat.le_of_ble_eq_true rfl) dX9_reserved_4 ⟨Nat.le_of_ble_eq_true rfl, Nat.le_of_ble_eq_true rfl⟩ (fun H locs hP hS => ?_)
  refine lv_if_ne (tgt := 21) hx hb dX9_reserved_7 (by decide) (fun _ => ?_) (fun c => absurd c (by decide))
  refine lv_iload_n hx hb dX9_reserved_21 rfl (lv_at hl 2 rfl) ?_
  refine lv_iconst (v := (-1)) hx hb dX9_reserved_22 (by decide) ?_
  refine lv_icmp_ne (tgt := 36) hx hb dX9_reserved_23 (by decide) (fun _ => ?_) (fun c => absurd c hm)
  refine lv_aload_n hx hb dX9_reserved_36 rfl (lv_at hl 0 rfl) ?_
  obtain ⟨k_1, hk_1⟩ := frc_hub F
  refine va_get (D := D) (ci := 14) (v := .ref (ad 9)) (C := RX9) (T := TX9) (N := 13) hx hb hts iw_X9_reserved_RX9 hown hK hP k_1 hk_1 rfl 10 (by decide) (hts (.fieldLink RX9 45 "Hubcascade" "units" "LHubcascade$Units;") (by decide +kernel)) (fun _ h9 => h9) rfl dX9_reserved_37 ?_
  obtain ⟨k_2, hk_2⟩ := frc_un F
  refine va_getN (D := D) (ci := 13) (v := .ref (ad 11)) (C := RX8) (T := TX8) (N := 5) hx hb hts iw_X9_reserved_RX8 hown hK hP k_2 hk_2 rfl 1 (by decide) (va_Nw.use rfl (hN.1 _ nf_3)) (fun _ h9 => h9) rfl dX9_reserved_40 ?_
  refine lv_aload_n hx hb dX9_reserved_43 rfl (lv_at hl 0 rfl) ?_
  refine lv_iload_n hx hb dX9_reserved_44 rfl (lv_at hl 2 rfl) ?_
  exact th_callV (As := [.int d]) (rest := [.ref (ad 11)]) ⟨hx, hb, hml, hown, hts⟩ (c_deviceAt_ex l D cy F hst d hd) (cwV 1 hts gX9_reserved_X9_deviceAt rfl rfl rfl (by decide +kernel) ⟨by decide, by decide⟩) hK hN hP hT hS (ci := 14) rfl hk_1 rfl rfl hl.1 rfl (Nat.le_of_ble_eq_true rfl) dX9_reserved_45 ⟨Nat.le_of_ble_eq_true rfl, Nat.le_of_ble_eq_true rfl⟩ hout hlocks (Nat.le_refl _) (Nat.le_refl _)

set_option maxRecDepth 100000 in
set_option maxHeartbeats 4000000 in
theorem c_type_x1 (l : Launch) (D : va_G) (cy : Nat → ClassId) {ad : Nat → Nat} {rw_ : Nat → Nat → Option Nat} {w : va_W} (F : FrC cy ad rw_ w) (hst : l.stackTraces = false) (n : Int32) (hw : ¬ (¬ n < 0 ∧ ¬ 255 < n)) : TH l D cy w yX9_type wsX9_type 6 82 [.ref (ad 0), .int n] "java/lang/IllegalArgumentException" := by
  refine th_ofW (cc := cX9_type) (maxL := 2) (ret := (some .int)) (lv := [(0, .ref (ad 0)), (1, .int n)]) (by decide) rfl (Nat.le_of_ble_eq_true rfl) rfl ?_
  intro p e s m below meth c ls hx hb hr hml hown hlocks hout hts hv hl
  have hown : s.vm.findClass RX9 = some m.cls := hown
  obtain ⟨⟨hP, hK, hN⟩, hT⟩ := hv
  have hS : va_S (fun _ => False) s.heap s.heap [] := va_S.rf
  refine lv_iload_n hx hb dX9_type_0 rfl (lv_at hl 1 rfl) ?_
  refine lv_iconst (v := 0) hx hb dX9_type_1 (by decide) ?_
  refine lv_sipush (v := 255) hx hb dX9_type_2 (by decide) ?_
  refine ro_callS (As := [.int n, .int 0, .int 255]) (rest := []) ⟨hx, hb, hml, hown, hts⟩ (c_isWithin_f l D cy w _ _ _ (my_out hw)) (va_cwS 3 hts gX9_type_X9_isWithin rfl rfl rfl (by decide +kernel) ⟨by decide, by decide⟩) hK hN hP hS rfl hl.1 rfl (Nat.le_of_ble_eq_true rfl) dX9_type_5 ⟨Nat.le_of_ble_eq_true rfl, Nat.le_of_ble_eq_true rfl⟩ (fun H locs hP hS => ?_)
  refine lv_if_ne (tgt := 22) hx hb dX9_type_8 (by decide) (fun c => absurd (by decide) c) (fun _ => ?_)
  exact th_throwSW (text := "not a byte") (WS := wsX9_type) hx hb hst hts hown (by decide +kernel) hT (by decide +kernel) (by decide +kernel) (by decide +kernel) (by decide +kernel) (by decide +kernel) (by decide +kernel) (by decide +kernel) hS (hl.1.trans hml.symm) dX9_type_11 dX9_type_14 dX9_type_15 dX9_type_18 dX9_type_21 hout hlocks (by decide) (by decide) (Nat.le_refl _) (Nat.le_refl _) (Nat.le_refl _) (Nat.le_refl _)

set_option maxRecDepth 100000 in
set_option maxHeartbeats 4000000 in
theorem c_five_x1 (l : Launch) (D : va_G) (cy : Nat → ClassId) {ad : Nat → Nat} {rw_ : Nat → Nat → Option Nat} {w : va_W} (F : FrC cy ad rw_ w) (hst : l.stackTraces = false) (n : Int32) (hw : ¬ (¬ n < 0 ∧ ¬ 2047 < n)) : TH l D cy w yX9_five wsX9_five 6 82 [.ref (ad 0), .int n] "java/lang/IllegalArgumentException" := by
  refine th_ofW (cc := cX9_five) (maxL := 4) (ret := (some .int)) (lv := [(0, .ref (ad 0)), (1, .int n)]) (by decide) rfl (Nat.le_of_ble_eq_true rfl) rfl ?_
  intro p e s m below meth c ls hx hb hr hml hown hlocks hout hts hv hl
  have hown : s.vm.findClass RX9 = some m.cls := hown
  obtain ⟨⟨hP, hK, hN⟩, hT⟩ := hv
  have hS : va_S (fun _ => False) s.heap s.heap [] := va_S.rf
  refine lv_iload_n hx hb dX9_five_0 rfl (lv_at hl 1 rfl) ?_
  refine lv_iconst (v := 0) hx hb dX9_five_1 (by decide) ?_
  refine lv_sipush (v := 2047) hx hb dX9_five_2 (by decide) ?_
  refine ro_callS (As := [.int n, .int 0, .int 2047]) (rest := []) ⟨hx, hb, hml, hown, hts⟩ (c_isWithin_f l D cy w _ _ _ (my_out hw)) (va_cwS 3 hts gX9_five_X9_isWithin rfl rfl rfl (by decide +kernel) ⟨by decide, by decide⟩) hK hN hP hS rfl hl.1 rfl (Nat.le_of_ble_eq_true rfl) dX9_five_5 ⟨Nat.le_of_ble_eq_true rfl, Nat.le_of_ble_eq_true rfl⟩ (fun H locs hP hS => ?_)
  refine lv_if_ne (tgt := 22) hx hb dX9_five_8 (by decide) (fun c => absurd (by decide) c) (fun _ => ?_)
  exact th_throwSW (text := "not eleven bits") (WS := wsX9_five) hx hb hst hts hown (by decide +kernel) hT (by decide +kernel) (by decide +kernel) (by decide +kernel) (by decide +kernel) (by decide +kernel) (by decide +kernel) (by decide +kernel) hS (hl.1.trans hml.symm) dX9_five_11 dX9_five_14 dX9_five_15 dX9_five_18 dX9_five_21 hout hlocks (by decide) (by decide) (Nat.le_refl _) (Nat.le_refl _) (Nat.le_refl _) (Nat.le_refl _)

set_option maxRecDepth 100000 in
set_option maxHeartbeats 4000000 in
theorem c_driver_x1 (l : Launch) (D : va_G) (cy : Nat → ClassId) {ad : Nat → Nat} {rw_ : Nat → Nat → Option Nat} {w : va_W} (F : FrC cy ad rw_ w) (hst : l.stackTraces = false) (a b : Int32) (h : ¬ ((¬ a < 0 ∧ ¬ 9 < a) ∧ (¬ b < -1 ∧ ¬ 9 < b))) : TH l D cy w yX9_driver wsX9_driver 6 82 [.ref (ad 0), .int a, .int b] "java/lang/IllegalArgumentException" := by
  refine th_ofW (cc := cX9_driver) (maxL := 3) (ret := (some .int)) (lv := [(0, .ref (ad 0)), (1, .int a), (2, .int b)]) (by decide) rfl (Nat.le_of_ble_eq_true rfl) rfl ?_
  intro p e s m below meth c ls hx hb hr hml hown hlocks hout hts hv hl
  have hown : s.vm.findClass RX9 = some m.cls := hown
  obtain ⟨⟨hP, hK, hN⟩, hT⟩ := hv
  have hS : va_S (fun _ => False) s.heap s.heap [] := va_S.rf
  refine lv_iload_n hx hb dX9_driver_0 rfl (lv_at hl 1 rfl) ?_
  refine lv_iconst (v := 0) hx hb dX9_driver_1 (by decide) ?_
  refine lv_bipush (v := 9) hx hb dX9_driver_2 (by decide) ?_
  by_cases h1 : (¬ a < 0 ∧ ¬ 9 < a)
  · refine ro_callS (As := [.int a, .int 0, .int 9]) (rest := []) ⟨hx, hb, hml, hown, hts⟩ (c_isWithin_t l D cy w _ _ _ h1.1 h1.2) (va_cwS 3 hts gX9_driver_X9_isWithin rfl rfl rfl (by decide +kernel) ⟨by decide, by decide⟩) hK hN hP hS rfl hl.1 rfl (Nat.le_of_ble_eq_true rfl) dX9_driver_4 ⟨Nat.le_of_ble_eq_true rfl, Nat.le_of_ble_eq_true rfl⟩ (fun H locs hP hS => ?_)
    refine lv_if_eq (tgt := 20) hx hb dX9_driver_7 (by decide) (fun c => absurd c (by decide)) (fun _ => ?_)
    refine lv_iload_n hx hb dX9_driver_10 rfl (lv_at hl 2 rfl) ?_
    refine lv_iconst (v := (-1)) hx hb dX9_driver_11 (by decide) ?_
    refine lv_bipush (v := 9) hx hb dX9_driver_12 (by decide) ?_
    by_cases h2 : (¬ b < (-1) ∧ ¬ 9 < b)
    · refine ro_callS (As := [.int b, .int (-1), .int 9]) (rest := []) ⟨hx, hb, hml, hown, hts⟩ (c_isWithin_t l D cy w _ _ _ h2.1 h2.2) (va_cwS 3 hts gX9_driver_X9_isWithin rfl rfl rfl (by decide +kernel) ⟨by decide, by decide⟩) hK hN hP hS rfl hl.1 rfl (Nat.le_of_ble_eq_true rfl) dX9_driver_14 ⟨Nat.le_of_ble_eq_true rfl, Nat.le_of_ble_eq_true rfl⟩ (fun H locs hP hS => ?_)
      refine lv_if_ne (tgt := 30) hx hb dX9_driver_17 (by decide) (fun _ => ?_) (fun c => absurd c (by decide))
      exact absurd ⟨h1, h2⟩ h
    · refine ro_callS (As := [.int b, .int (-1), .int 9]) (rest := []) ⟨hx, hb, hml, hown, hts⟩ (c_isWithin_f l D cy w _ _ _ (my_out h2)) (va_cwS 3 hts gX9_driver_X9_isWithin rfl rfl rfl (by decide +kernel) ⟨by decide, by decide⟩) hK hN hP hS rfl hl.1 rfl (Nat.le_of_ble_eq_true rfl) dX9_driver_14 ⟨Nat.le_of_ble_eq_true rfl, Nat.le_of_ble_eq_true rfl⟩ (fun H locs hP hS => ?_)
      refine lv_if_ne (tgt := 30) hx hb dX9_driver_17 (by decide) (fun c => absurd (by decide) c) (fun _ => ?_)
      exact th_throwS (text := "no such class or subclass") (WS := wsX9_driver) hx hb hst hts hown (by decide +kernel) hT (by decide +kernel) (by decide +kernel) (by decide +kernel) (by decide +kernel) (by decide +kernel) (by decide +kernel) (by decide +kernel) hS (hl.1.trans hml.symm) dX9_driver_20 dX9_driver_23 dX9_driver_24 dX9_driver_26 dX9_driver_29 hout hlocks (by decide) (by decide) (Nat.le_refl _) (Nat.le_refl _) (Nat.le_refl _) (Nat.le_refl _)
  · refine ro_callS (As := [.int a, .int 0, .int 9]) (rest := []) ⟨hx, hb, hml, hown, hts⟩ (c_isWithin_f l D cy w _ _ _ (my_out h1)) (va_cwS 3 hts gX9_driver_X9_isWithin rfl rfl rfl (by decide +kernel) ⟨by decide, by decide⟩) hK hN hP hS rfl hl.1 rfl (Nat.le_of_ble_eq_true rfl) dX9_driver_4 ⟨Nat.le_of_ble_eq_true rfl, Nat.le_of_ble_eq_true rfl⟩ (fun H locs hP hS => ?_)
    refine lv_if_eq (tgt := 20) hx hb dX9_driver_7 (by decide) (fun _ => ?_) (fun c => absurd (by decide) c)
    exact th_throwS (text := "no such class or subclass") (WS := wsX9_driver) hx hb hst hts hown (by decide +kernel) hT (by decide +kernel) (by decide +kernel) (by decide +kernel) (by decide +kernel) (by decide +kernel) (by decide +kernel) (by decide +kernel) hS (hl.1.trans hml.symm) dX9_driver_20 dX9_driver_23 dX9_driver_24 dX9_driver_26 dX9_driver_29 hout hlocks (by decide) (by decide) (Nat.le_refl _) (Nat.le_refl _) (Nat.le_refl _) (Nat.le_refl _)

theorem iw_X9_plug_RX1 : ∀ w ∈ u_ws RX1 TX1 20, w ∈ wsX9_plug := by decide +kernel
set_option maxRecDepth 100000 in
set_option maxHeartbeats 4000000 in
theorem c_plug_x1c (l : Launch) (D : va_G) (cy : Nat → ClassId) {ad : Nat → Nat} {rw_ : Nat → Nat → Option Nat} {w : va_W} (F : FrC cy ad rw_ w) (hst : l.stackTraces = false) (z : Int32) (h : z < 0 ∨ 4 ≤ z) : TH l D cy w yX9_plug wsX9_plug 6 82 [.ref (ad 0), .int 0, .int 0, .int z] "java/lang/IndexOutOfBoundsException" := by
  refine th_ofW (cc := cX9_plug) (maxL := 6) (ret := (some .int)) (lv := [(0, .ref (ad 0)), (1, .int 0), (2, .int 0), (3, .int z)]) (by decide) rfl (Nat.le_of_ble_eq_true rfl) rfl ?_
  intro p e s m below meth c ls hx hb hr hml hown hlocks hout hts hv hl
  have hown : s.vm.findClass RX9 = some m.cls := hown
  obtain ⟨⟨hP, hK, hN⟩, hT⟩ := hv
  have hS : va_S (fun _ => False) s.heap s.heap [] := va_S.rf
  refine lv_aload_n hx hb dX9_plug_0 rfl (lv_at hl 0 rfl) ?_
  refine lv_iload_n hx hb dX9_plug_1 rfl (lv_at hl 1 rfl) ?_
  obtain ⟨k_1, hk_1⟩ := frc_hub F
  refine ro_callV (As := [.int 0]) (rest := []) ⟨hx, hb, hml, hown, hts⟩ (c_deviceAt_ok l D cy F) (cwV 1 hts gX9_plug_X9_deviceAt rfl rfl rfl (by decide +kernel) ⟨by decide, by decide⟩) hK hN hP hS (ci := 14) rfl hk_1 rfl rfl hl.1 rfl (Nat.le_of_ble_eq_true rfl) dX9_plug_2 ⟨Nat.le_of_ble_eq_true rfl, Nat.le_of_ble_eq_true rfl⟩ (fun H locs hP hS => ?_)
  refine lv_astore (lv' := [(4, .ref (ad 100)), (0, .ref (ad 0)), (1, .int 0), (2, .int 0), (3, .int z)]) hx hb dX9_plug_5 hl (by decide) rfl (fun ls hl => ?_)
  refine lv_aload_n hx hb dX9_plug_7 rfl (lv_at hl 1 rfl) ?_
  refine lv_iload_n hx hb dX9_plug_8 rfl (lv_at hl 3 rfl) ?_
  refine ro_callV (As := [.int 0]) (rest := []) ⟨hx, hb, hml, hown, hts⟩ (c_deviceAt_ok l D cy F) (cwV 1 hts gX9_plug_X9_deviceAt rfl rfl rfl (by decide +kernel) ⟨by decide, by decide⟩) hK hN hP hS (ci := 14) rfl hk_1 rfl rfl hl.1 rfl (Nat.le_of_ble_eq_true rfl) dX9_plug_9 ⟨Nat.le_of_ble_eq_true rfl, Nat.le_of_ble_eq_true rfl⟩ (fun H locs hP hS => ?_)
  refine lv_astore (lv' := [(5, .ref (ad 100)), (4, .ref (ad 100)), (0, .ref (ad 0)), (1, .int 0), (2, .int 0), (3, .int z)]) hx hb dX9_plug_12 hl (by decide) rfl (fun ls hl => ?_)
  refine lv_iload_n hx hb dX9_plug_14 rfl (lv_at hl 5 rfl) ?_
  refine lv_if_lt (tgt := 27) hx hb dX9_plug_15 (by decide) (fun c15 => ?_) (fun c15 => ?_)
  · exact th_throwS (text := "no such port") (WS := wsX9_plug) hx hb hst hts hown (by decide +kernel) hT (by decide +kernel) (by decide +kernel) (by decide +kernel) (by decide +kernel) (by decide +kernel) (by decide +kernel) (by decide +kernel) hS (hl.1.trans hml.symm) dX9_plug_27 dX9_plug_30 dX9_plug_31 dX9_plug_33 dX9_plug_36 hout hlocks (by decide) (by decide) (Nat.le_refl _) (Nat.le_refl _) (Nat.le_refl _) (Nat.le_refl _)
  · refine lv_iload_n hx hb dX9_plug_18 rfl (lv_at hl 5 rfl) ?_
    refine lv_aload hx hb dX9_plug_19 (lv_at hl 0 rfl) ?_
    obtain ⟨k_2, hk_2⟩ := frc_d0 F
    refine va_getN (D := D) (ci := 6) (v := .int 4) (C := RX1) (T := TX1) (N := 20) hx hb hts iw_X9_plug_RX1 hown hK hP k_2 hk_2 rfl 2 (by decide) (va_Nw.use rfl (hN.1 _ nf_33)) (fun _ h9 => h9) rfl dX9_plug_21 ?_
    refine lv_icmp_lt (tgt := 37) hx hb dX9_plug_24 (by decide) (fun c => absurd c (my_nlt_le (h.resolve_left c15))) (fun _ => ?_)
    exact th_throwS (text := "no such port") (WS := wsX9_plug) hx hb hst hts hown (by decide +kernel) hT (by decide +kernel) (by decide +kernel) (by decide +kernel) (by decide +kernel) (by decide +kernel) (by decide +kernel) (by decide +kernel) hS (hl.1.trans hml.symm) dX9_plug_27 dX9_plug_30 dX9_plug_31 dX9_plug_33 dX9_plug_36 hout hlocks (by decide) (by decide) (Nat.le_refl _) (Nat.le_refl _) (Nat.le_refl _) (Nat.le_refl _)

set_option maxRecDepth 100000 in
set_option maxHeartbeats 4000000 in
theorem c_plug_x2 (l : Launch) (D : va_G) (cy : Nat → ClassId) {ad : Nat → Nat} {rw_ : Nat → Nat → Option Nat} {w : va_W} (F : FrC cy ad rw_ w) (hst : l.stackTraces = false) (z : Int32) (h1 : ¬ z < 0) (h2 : z < 4) : TH l D cy w yX9_plug wsX9_plug 6 82 [.ref (ad 0), .int 0, .int 0, .int z] "java/lang/UnsupportedOperationException" := by
  refine th_ofW (cc := cX9_plug) (maxL := 6) (ret := (some .int)) (lv := [(0, .ref (ad 0)), (1, .int 0), (2, .int 0), (3, .int z)]) (by decide) rfl (Nat.le_of_ble_eq_true rfl) rfl ?_
  intro p e s m below meth c ls hx hb hr hml hown hlocks hout hts hv hl
  have hown : s.vm.findClass RX9 = some m.cls := hown
  obtain ⟨⟨hP, hK, hN⟩, hT⟩ := hv
  have hS : va_S (fun _ => False) s.heap s.heap [] := va_S.rf
  refine lv_aload_n hx hb dX9_plug_0 rfl (lv_at hl 0 rfl) ?_
  refine lv_iload_n hx hb dX9_plug_1 rfl (lv_at hl 1 rfl) ?_
  obtain ⟨k_1, hk_1⟩ := frc_hub F
  refine ro_callV (As := [.int 0]) (rest := []) ⟨hx, hb, hml, hown, hts⟩ (c_deviceAt_ok l D cy F) (cwV 1 hts gX9_plug_X9_deviceAt rfl rfl rfl (by decide +kernel) ⟨by decide, by decide⟩) hK hN hP hS (ci := 14) rfl hk_1 rfl rfl hl.1 rfl (Nat.le_of_ble_eq_true rfl) dX9_plug_2 ⟨Nat.le_of_ble_eq_true rfl, Nat.le_of_ble_eq_true rfl⟩ (fun H locs hP hS => ?_)
  refine lv_astore (lv' := [(4, .ref (ad 100)), (0, .ref (ad 0)), (1, .int 0), (2, .int 0), (3, .int z)]) hx hb dX9_plug_5 hl (by decide) rfl (fun ls hl => ?_)
  refine lv_aload_n hx hb dX9_plug_7 rfl (lv_at hl 1 rfl) ?_
  refine lv_iload_n hx hb dX9_plug_8 rfl (lv_at hl 3 rfl) ?_
  refine ro_callV (As := [.int 0]) (rest := []) ⟨hx, hb, hml, hown, hts⟩ (c_deviceAt_ok l D cy F) (cwV 1 hts gX9_plug_X9_deviceAt rfl rfl rfl (by decide +kernel) ⟨by decide, by decide⟩) hK hN hP hS (ci := 14) rfl hk_1 rfl rfl hl.1 rfl (Nat.le_of_ble_eq_true rfl) dX9_plug_9 ⟨Nat.le_of_ble_eq_true rfl, Nat.le_of_ble_eq_true rfl⟩ (fun H locs hP hS => ?_)
  refine lv_astore (lv' := [(5, .ref (ad 100)), (4, .ref (ad 100)), (0, .ref (ad 0)), (1, .int 0), (2, .int 0), (3, .int z)]) hx hb dX9_plug_12 hl (by decide) rfl (fun ls hl => ?_)
  refine lv_iload_n hx hb dX9_plug_14 rfl (lv_at hl 5 rfl) ?_
  refine lv_if_lt (tgt := 27) hx hb dX9_plug_15 (by decide) (fun c => absurd c h1) (fun _ => ?_)
  refine lv_iload_n hx hb dX9_plug_18 rfl (lv_at hl 5 rfl) ?_
  refine lv_aload hx hb dX9_plug_19 (lv_at hl 0 rfl) ?_
  obtain ⟨k_2, hk_2⟩ := frc_d0 F
  refine va_getN (D := D) (ci := 6) (v := .int 4) (C := RX1) (T := TX1) (N := 20) hx hb hts iw_X9_plug_RX1 hown hK hP k_2 hk_2 rfl 2 (by decide) (va_Nw.use rfl (hN.1 _ nf_33)) (fun _ h9 => h9) rfl dX9_plug_21 ?_
  refine lv_icmp_lt (tgt := 37) hx hb dX9_plug_24 (by decide) (fun _ => ?_) (fun c => absurd h2 c)
  refine lv_aload hx hb dX9_plug_37 (lv_at hl 1 rfl) ?_
  refine va_getN (D := D) (ci := 6) (v := .int 99) (C := RX1) (T := TX1) (N := 20) hx hb hts iw_X9_plug_RX1 hown hK hP k_2 hk_2 rfl 7 (by decide) (va_Nw.use rfl (hN.1 _ nf_38)) (fun _ h9 => h9) rfl dX9_plug_39 ?_
  refine lv_bipush (v := 117) hx hb dX9_plug_42 (by decide) ?_
  refine lv_icmp_ne (tgt := 65) hx hb dX9_plug_44 (by decide) (fun _ => ?_) (fun c => absurd c (by decide))
  exact th_throwS (text := "it can't be plugged there") (WS := wsX9_plug) hx hb hst hts hown (by decide +kernel) hT (by decide +kernel) (by decide +kernel) (by decide +kernel) (by decide +kernel) (by decide +kernel) (by decide +kernel) (by decide +kernel) hS (hl.1.trans hml.symm) dX9_plug_65 dX9_plug_68 dX9_plug_69 dX9_plug_71 dX9_plug_74 hout hlocks (by decide) (by decide) (Nat.le_refl _) (Nat.le_refl _) (Nat.le_refl _) (Nat.le_refl _)

set_option maxRecDepth 100000 in
set_option maxHeartbeats 4000000 in
theorem c_endpoint_x2 (l : Launch) (D : va_G) (cy : Nat → ClassId) {ad : Nat → Nat} {rw_ : Nat → Nat → Option Nat} {w : va_W} (F : FrC cy ad rw_ w) (hst : l.stackTraces = false) (n q z : Int32) (h : ¬ ((¬ n < 1 ∧ ¬ 3 < n) ∧ (¬ z < 1 ∧ ¬ 8 < z))) : TH l D cy w yX9_endpoint wsX9_endpoint 6 82 [.ref (ad 0), .int 0, .int n, .int q, .int z] "java/lang/IllegalArgumentException" := by
  refine th_ofW (cc := cX9_endpoint) (maxL := 7) (ret := (some .int)) (lv := [(0, .ref (ad 0)), (1, .int 0), (2, .int n), (3, .int q), (4, .int z)]) (by decide) rfl (Nat.le_of_ble_eq_true rfl) rfl ?_
  intro p e s m below meth c ls hx hb hr hml hown hlocks hout hts hv hl
  have hown : s.vm.findClass RX9 = some m.cls := hown
  obtain ⟨⟨hP, hK, hN⟩, hT⟩ := hv
  have hS : va_S (fun _ => False) s.heap s.heap [] := va_S.rf
  refine lv_aload_n hx hb dX9_endpoint_0 rfl (lv_at hl 0 rfl) ?_
  refine lv_iload_n hx hb dX9_endpoint_1 rfl (lv_at hl 1 rfl) ?_
  obtain ⟨k_1, hk_1⟩ := frc_hub F
  refine ro_callV (As := [.int 0]) (rest := []) ⟨hx, hb, hml, hown, hts⟩ (c_deviceAt_ok l D cy F) (cwV 1 hts gX9_endpoint_X9_deviceAt rfl rfl rfl (by decide +kernel) ⟨by decide, by decide⟩) hK hN hP hS (ci := 14) rfl hk_1 rfl rfl hl.1 rfl (Nat.le_of_ble_eq_true rfl) dX9_endpoint_2 ⟨Nat.le_of_ble_eq_true rfl, Nat.le_of_ble_eq_true rfl⟩ (fun H locs hP hS => ?_)
  refine lv_astore (lv' := [(5, .ref (ad 100)), (0, .ref (ad 0)), (1, .int 0), (2, .int n), (3, .int q), (4, .int z)]) hx hb dX9_endpoint_5 hl (by decide) rfl (fun ls hl => ?_)
  refine lv_iload_n hx hb dX9_endpoint_7 rfl (lv_at hl 3 rfl) ?_
  refine lv_iconst (v := 1) hx hb dX9_endpoint_8 (by decide) ?_
  refine lv_iconst (v := 3) hx hb dX9_endpoint_9 (by decide) ?_
  by_cases h1 : (¬ n < 1 ∧ ¬ 3 < n)
  · refine ro_callS (As := [.int n, .int 1, .int 3]) (rest := []) ⟨hx, hb, hml, hown, hts⟩ (c_isWithin_t l D cy w _ _ _ h1.1 h1.2) (va_cwS 3 hts gX9_endpoint_X9_isWithin rfl rfl rfl (by decide +kernel) ⟨by decide, by decide⟩) hK hN hP hS rfl hl.1 rfl (Nat.le_of_ble_eq_true rfl) dX9_endpoint_10 ⟨Nat.le_of_ble_eq_true rfl, Nat.le_of_ble_eq_true rfl⟩ (fun H locs hP hS => ?_)
    refine lv_if_eq (tgt := 27) hx hb dX9_endpoint_13 (by decide) (fun c => absurd c (by decide)) (fun _ => ?_)
    refine lv_iload hx hb dX9_endpoint_16 (lv_at hl 5 rfl) ?_
    refine lv_iconst (v := 1) hx hb dX9_endpoint_18 (by decide) ?_
    refine lv_bipush (v := 8) hx hb dX9_endpoint_19 (by decide) ?_
    by_cases h2 : (¬ z < 1 ∧ ¬ 8 < z)
    · refine ro_callS (As := [.int z, .int 1, .int 8]) (rest := []) ⟨hx, hb, hml, hown, hts⟩ (c_isWithin_t l D cy w _ _ _ h2.1 h2.2) (va_cwS 3 hts gX9_endpoint_X9_isWithin rfl rfl rfl (by decide +kernel) ⟨by decide, by decide⟩) hK hN hP hS rfl hl.1 rfl (Nat.le_of_ble_eq_true rfl) dX9_endpoint_21 ⟨Nat.le_of_ble_eq_true rfl, Nat.le_of_ble_eq_true rfl⟩ (fun H locs hP hS => ?_)
      refine lv_if_ne (tgt := 37) hx hb dX9_endpoint_24 (by decide) (fun _ => ?_) (fun c => absurd c (by decide))
      exact absurd ⟨h1, h2⟩ h
    · refine ro_callS (As := [.int z, .int 1, .int 8]) (rest := []) ⟨hx, hb, hml, hown, hts⟩ (c_isWithin_f l D cy w _ _ _ (my_out h2)) (va_cwS 3 hts gX9_endpoint_X9_isWithin rfl rfl rfl (by decide +kernel) ⟨by decide, by decide⟩) hK hN hP hS rfl hl.1 rfl (Nat.le_of_ble_eq_true rfl) dX9_endpoint_21 ⟨Nat.le_of_ble_eq_true rfl, Nat.le_of_ble_eq_true rfl⟩ (fun H locs hP hS => ?_)
      refine lv_if_ne (tgt := 37) hx hb dX9_endpoint_24 (by decide) (fun c => absurd (by decide) c) (fun _ => ?_)
      exact th_throwS (text := "no such endpoint can be made") (WS := wsX9_endpoint) hx hb hst hts hown (by decide +kernel) hT (by decide +kernel) (by decide +kernel) (by decide +kernel) (by decide +kernel) (by decide +kernel) (by decide +kernel) (by decide +kernel) hS (hl.1.trans hml.symm) dX9_endpoint_27 dX9_endpoint_30 dX9_endpoint_31 dX9_endpoint_33 dX9_endpoint_36 hout hlocks (by decide) (by decide) (Nat.le_refl _) (Nat.le_refl _) (Nat.le_refl _) (Nat.le_refl _)
  · refine ro_callS (As := [.int n, .int 1, .int 3]) (rest := []) ⟨hx, hb, hml, hown, hts⟩ (c_isWithin_f l D cy w _ _ _ (my_out h1)) (va_cwS 3 hts gX9_endpoint_X9_isWithin rfl rfl rfl (by decide +kernel) ⟨by decide, by decide⟩) hK hN hP hS rfl hl.1 rfl (Nat.le_of_ble_eq_true rfl) dX9_endpoint_10 ⟨Nat.le_of_ble_eq_true rfl, Nat.le_of_ble_eq_true rfl⟩ (fun H locs hP hS => ?_)
    refine lv_if_eq (tgt := 27) hx hb dX9_endpoint_13 (by decide) (fun _ => ?_) (fun c => absurd (by decide) c)
    exact th_throwS (text := "no such endpoint can be made") (WS := wsX9_endpoint) hx hb hst hts hown (by decide +kernel) hT (by decide +kernel) (by decide +kernel) (by decide +kernel) (by decide +kernel) (by decide +kernel) (by decide +kernel) (by decide +kernel) hS (hl.1.trans hml.symm) dX9_endpoint_27 dX9_endpoint_30 dX9_endpoint_31 dX9_endpoint_33 dX9_endpoint_36 hout hlocks (by decide) (by decide) (Nat.le_refl _) (Nat.le_refl _) (Nat.le_refl _) (Nat.le_refl _)

theorem iw_X9_endpoint_RX1 : ∀ w ∈ u_ws RX1 TX1 20, w ∈ wsX9_endpoint := by decide +kernel
theorem iw_X9_endpoint_RX2 : ∀ w ∈ u_ws RX2 TX2 9, w ∈ wsX9_endpoint := by decide +kernel
set_option maxRecDepth 100000 in
set_option maxHeartbeats 4000000 in
theorem c_endpoint_x3 (l : Launch) (D : va_G) (cy : Nat → ClassId) {ad : Nat → Nat} {rw_ : Nat → Nat → Option Nat} {w : va_W} (F : FrC cy ad rw_ w) (hst : l.stackTraces = false) (j : Nat) (q z : Int32) (hj : j < 3) (hz : ¬ z < 1 ∧ ¬ 8 < z) : TH l D cy w yX9_endpoint wsX9_endpoint 6 82 [.ref (ad 0), .int 0, .int (nI (j + 1)), .int q, .int z] "java/lang/UnsupportedOperationException" := by
  refine th_ofW (cc := cX9_endpoint) (maxL := 7) (ret := (some .int)) (lv := [(0, .ref (ad 0)), (1, .int 0), (2, .int (nI (j + 1))), (3, .int q), (4, .int z)]) (by decide) rfl (Nat.le_of_ble_eq_true rfl) rfl ?_
  intro p e s m below meth c ls hx hb hr hml hown hlocks hout hts hv hl
  have hown : s.vm.findClass RX9 = some m.cls := hown
  obtain ⟨⟨hP, hK, hN⟩, hT⟩ := hv
  have hS : va_S (fun _ => False) s.heap s.heap [] := va_S.rf
  refine lv_aload_n hx hb dX9_endpoint_0 rfl (lv_at hl 0 rfl) ?_
  refine lv_iload_n hx hb dX9_endpoint_1 rfl (lv_at hl 1 rfl) ?_
  obtain ⟨k_1, hk_1⟩ := frc_hub F
  refine ro_callV (As := [.int 0]) (rest := []) ⟨hx, hb, hml, hown, hts⟩ (c_deviceAt_ok l D cy F) (cwV 1 hts gX9_endpoint_X9_deviceAt rfl rfl rfl (by decide +kernel) ⟨by decide, by decide⟩) hK hN hP hS (ci := 14) rfl hk_1 rfl rfl hl.1 rfl (Nat.le_of_ble_eq_true rfl) dX9_endpoint_2 ⟨Nat.le_of_ble_eq_true rfl, Nat.le_of_ble_eq_true rfl⟩ (fun H locs hP hS => ?_)
  refine lv_astore (lv' := [(5, .ref (ad 100)), (0, .ref (ad 0)), (1, .int 0), (2, .int (nI (j + 1))), (3, .int q), (4, .int z)]) hx hb dX9_endpoint_5 hl (by decide) rfl (fun ls hl => ?_)
  refine lv_iload_n hx hb dX9_endpoint_7 rfl (lv_at hl 3 rfl) ?_
  refine lv_iconst (v := 1) hx hb dX9_endpoint_8 (by decide) ?_
  refine lv_iconst (v := 3) hx hb dX9_endpoint_9 (by decide) ?_
  refine ro_callS (As := [.int (nI (j + 1)), .int 1, .int 3]) (rest := []) ⟨hx, hb, hml, hown, hts⟩ (c_isWithin_t l D cy w _ _ _ (my_lo (k := 1) (by decide) (by omega) (by omega)) (my_hi (k := 3) (by decide) (by omega) (by decide))) (va_cwS 3 hts gX9_endpoint_X9_isWithin rfl rfl rfl (by decide +kernel) ⟨by decide, by decide⟩) hK hN hP hS rfl hl.1 rfl (Nat.le_of_ble_eq_true rfl) dX9_endpoint_10 ⟨Nat.le_of_ble_eq_true rfl, Nat.le_of_ble_eq_true rfl⟩ (fun H locs hP hS => ?_)
  refine lv_if_eq (tgt := 27) hx hb dX9_endpoint_13 (by decide) (fun c => absurd c (by decide)) (fun _ => ?_)
  refine lv_iload hx hb dX9_endpoint_16 (lv_at hl 5 rfl) ?_
  refine lv_iconst (v := 1) hx hb dX9_endpoint_18 (by decide) ?_
  refine lv_bipush (v := 8) hx hb dX9_endpoint_19 (by decide) ?_
  refine ro_callS (As := [.int z, .int 1, .int 8]) (rest := []) ⟨hx, hb, hml, hown, hts⟩ (c_isWithin_t l D cy w _ _ _ hz.1 hz.2) (va_cwS 3 hts gX9_endpoint_X9_isWithin rfl rfl rfl (by decide +kernel) ⟨by decide, by decide⟩) hK hN hP hS rfl hl.1 rfl (Nat.le_of_ble_eq_true rfl) dX9_endpoint_21 ⟨Nat.le_of_ble_eq_true rfl, Nat.le_of_ble_eq_true rfl⟩ (fun H locs hP hS => ?_)
  refine lv_if_ne (tgt := 37) hx hb dX9_endpoint_24 (by decide) (fun _ => ?_) (fun c => absurd c (by decide))
  refine lv_aload hx hb dX9_endpoint_37 (lv_at hl 0 rfl) ?_
  obtain ⟨k_2, hk_2⟩ := frc_d0 F
  refine va_getN (D := D) (ci := 6) (v := .ref (ad (140 + 0))) (C := RX1) (T := TX1) (N := 20) hx hb hts iw_X9_endpoint_RX1 hown hK hP k_2 hk_2 rfl 19 (by decide) (va_Nw.use rfl (hN.1 _ nf_50)) (fun _ h9 => h9) rfl dX9_endpoint_39 ?_
  refine lv_iload_n hx hb dX9_endpoint_42 rfl (lv_at hl 3 rfl) ?_
  refine lv_iconst (v := 1) hx hb dX9_endpoint_43 (by decide) ?_
  refine lv_isub hx hb dX9_endpoint_44 ?_
  refine lv_topi (fun y ey => ?_)
  obtain rfl : y = nI j := ey.trans (nI_pred j)
  obtain ⟨k_3, hk_3⟩ := frc_ei F 0 (by decide)
  refine my_ald hx hb hK hP k_3 5 hk_3 rfl (i := nI j) (j := j) (r := ad (200 + 4 * 0 + j)) rfl hj (by decide) (frc_eir F 0 j (by decide) hj) dX9_endpoint_45 ?_
  refine lv_astore (lv' := [(6, .ref (ad (200 + 4 * 0 + j))), (5, .ref (ad 100)), (0, .ref (ad 0)), (1, .int 0), (2, .int (nI (j + 1))), (3, .int q), (4, .int z)]) hx hb dX9_endpoint_46 hl (by decide) rfl (fun ls hl => ?_)
  refine lv_aload hx hb dX9_endpoint_48 (lv_at hl 0 rfl) ?_
  obtain ⟨k_4, hk_4⟩ := frc_ep F 0 j (by decide) hj
  refine va_getN (D := D) (ci := 7) (v := .int 0) (C := RX2) (T := TX2) (N := 9) hx hb hts iw_X9_endpoint_RX2 hown hK hP k_4 hk_4 rfl 0 (by decide) (va_Nw.use rfl (hN.1 _ nf_19)) (fun _ h9 => h9) rfl dX9_endpoint_50 ?_
  refine lv_if_ne (tgt := 66) hx hb dX9_endpoint_53 (by decide) (fun c => absurd (by decide) c) (fun _ => ?_)
  refine lv_aload hx hb dX9_endpoint_56 (lv_at hl 1 rfl) ?_
  refine va_getN (D := D) (ci := 6) (v := .int 99) (C := RX1) (T := TX1) (N := 20) hx hb hts iw_X9_endpoint_RX1 hown hK hP k_2 hk_2 rfl 7 (by decide) (va_Nw.use rfl (hN.1 _ nf_38)) (fun _ h9 => h9) rfl dX9_endpoint_58 ?_
  refine lv_bipush (v := 117) hx hb dX9_endpoint_61 (by decide) ?_
  refine lv_icmp_eq (tgt := 76) hx hb dX9_endpoint_63 (by decide) (fun c => absurd c (by decide)) (fun _ => ?_)
  exact th_throwS (text := "the device has it, or is plugged") (WS := wsX9_endpoint) hx hb hst hts hown (by decide +kernel) hT (by decide +kernel) (by decide +kernel) (by decide +kernel) (by decide +kernel) (by decide +kernel) (by decide +kernel) (by decide +kernel) hS (hl.1.trans hml.symm) dX9_endpoint_66 dX9_endpoint_69 dX9_endpoint_70 dX9_endpoint_72 dX9_endpoint_75 hout hlocks (by decide) (by decide) (Nat.le_refl _) (Nat.le_refl _) (Nat.le_refl _) (Nat.le_refl _)
