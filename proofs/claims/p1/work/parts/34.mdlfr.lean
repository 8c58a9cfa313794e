def wsBK : List Cond := .code yX14_bulk cX14_bulk 7 (some .int) :: ([.fieldLink RX14 38 "HubcascadeModel" "lastBulk" "I", .fieldLink RX14 18 "HubcascadeModel" "pipes" "[LHubcascadeModel$Pipe;"] ++ u_ws RX14 TX14 19)
def wsFR : List Cond := .code yX14_frame cX14_frame 5 (some .int) :: ([.fieldLink RX14 61 "HubcascadeModel" "thrown" "I", .fieldLink RX14 205 "HubcascadeModel" "frame" "I", .fieldLink RX14 42 "HubcascadeModel" "hostLeft" "I", .fieldLink RX14 45 "HubcascadeModel" "hubLeft" "[I", .fieldLink RX14 10 "HubcascadeModel" "devices" "Ljava/util/ArrayList;", .fieldLink RX14 18 "HubcascadeModel" "pipes" "[LHubcascadeModel$Pipe;"] ++ wsV RX14 64 RJx4a65c yJx4a65c_size_8abf5 wsJx4a65c_size_8abf5 ++ wsV RX14 400 RX14 yX14_bulk wsBK ++ u_ws RX14 TX14 19)
theorem gFR_size : GoodIn wsFR (wsV RX14 64 RJx4a65c yJx4a65c_size_8abf5 wsJx4a65c_size_8abf5) := goodIn_of _ (by decide +kernel)
theorem gFR_bulk : GoodIn wsFR (wsV RX14 400 RX14 yX14_bulk wsBK) := goodIn_of _ (by decide +kernel)

theorem iw_X14_bulk_RX14 : ∀ w ∈ u_ws RX14 TX14 19, w ∈ wsBK := by decide +kernel
set_option maxRecDepth 100000 in
set_option maxHeartbeats 4000000 in
theorem m_bulk (l : Launch) (D : va_G) (cy : Nat → ClassId) {am : Nat → Nat} (sz : Nat) : ME l D cy ([(am 0, .inr (19, [.int 0, .ref (am 1), .ref (am 4), .ref (am 5), .ref (am 6), .ref (am 7), .ref (am 8), .int 0, .ref (am 9), .int 1, .int (-1), .int 100, .ref (am 10), .long 0, .int 0, .int 0, .int 0, .int 0, .long 0])), (am 4, .inl (cy 9, 12, .inr (.inr (.inr (.inr (fun _ => none))))))]) sz yX14_bulk wsBK 0 0 0 0 [.ref (am 0)] (some (.int 0)) (fun H => va_P D vwCl ([(am 0, .inr (19, [.int 0, .ref (am 1), .ref (am 4), .ref (am 5), .ref (am 6), .ref (am 7), .ref (am 8), .int 0, .ref (am 9), .int 1, .int (-1), .int 100, .ref (am 10), .long 0, .int 0, .int 0, .int 0, .int 0, .long 0])), (am 4, .inl (cy 9, 12, .inr (.inr (.inr (.inr (fun _ => none))))))]) H ∧ va_D (va_A ([(am 0, .inr (19, [.int 0, .ref (am 1), .ref (am 4), .ref (am 5), .ref (am 6), .ref (am 7), .ref (am 8), .int 0, .ref (am 9), .int 1, .int (-1), .int 100, .ref (am 10), .long 0, .int 0, .int 0, .int 0, .int 0, .long 0])), (am 4, .inl (cy 9, 12, .inr (.inr (.inr (.inr (fun _ => none))))))]) sz) ([(am 0, .inr (19, [.int 0, .ref (am 1), .ref (am 4), .ref (am 5), .ref (am 6), .ref (am 7), .ref (am 8), .int 0, .ref (am 9), .int 1, .int (-1), .int 100, .ref (am 10), .long 0, .int 0, .int 0, .int 0, .int 0, .long 0])), (am 4, .inl (cy 9, 12, .inr (.inr (.inr (.inr (fun _ => none))))))])) := by
  refine ro_ofW (cc := cX14_bulk) (maxL := 7) (ret := (some .int)) (lv := [(0, .ref (am 0))]) (by decide) rfl (Nat.le_of_ble_eq_true rfl) rfl ?_
  intro p e s m below meth c ls hx hb hr hml hown hlocks hname hts hv hl
  have hown : s.vm.findClass RX14 = some m.cls := hown
  obtain ⟨⟨hsz, hP, hD0⟩, hK, hN⟩ := hv
  subst hsz
  have hD := hD0.self (sz := s.heap.size)
  generalize hAe : va_A ([(am 0, .inr (19, [.int 0, .ref (am 1), .ref (am 4), .ref (am 5), .ref (am 6), .ref (am 7), .ref (am 8), .int 0, .ref (am 9), .int 1, .int (-1), .int 100, .ref (am 10), .long 0, .int 0, .int 0, .int 0, .int 0, .long 0])), (am 4, .inl (cy 9, 12, .inr (.inr (.inr (.inr (fun _ => none))))))]) s.heap.size = A at hD ⊢
  have hA : ∀ q : Nat, s.heap.size ≤ q → A q := fun q h => by rw [← hAe]; exact Or.inr h
  have hS : va_S A s.heap s.heap [] := va_S.rf
  refine lv_iconst (v := 0) hx hb dX14_bulk_0 (by decide) ?_
  refine lv_istore_n (lv' := [(1, .int 0), (0, .ref (am 0))]) hx hb dX14_bulk_1 rfl hl (by decide) rfl (fun ls hl => ?_)
  refine lv_iconst (v := 0) hx hb dX14_bulk_2 (by decide) ?_
  refine lv_istore_n (lv' := [(2, .int 0), (1, .int 0), (0, .ref (am 0))]) hx hb dX14_bulk_3 rfl hl (by decide) rfl (fun ls hl => ?_)
  refine lv_iconst (v := 0) hx hb dX14_bulk_4 (by decide) ?_
  refine lv_istore_n (lv' := [(3, .int 0), (2, .int 0), (1, .int 0), (0, .ref (am 0))]) hx hb dX14_bulk_5 rfl hl (by decide) rfl (fun ls hl => ?_)
  refine lv_aload_n hx hb dX14_bulk_6 rfl (lv_at hl 3 rfl) ?_
  refine va_get (D := D) (ci := 19) (v := .int (-1)) (C := RX14) (T := TX14) (N := 19) hx hb hts iw_X14_bulk_RX14 hown hK hP 0 rfl rfl 10 (by decide) (hts (.fieldLink RX14 38 "HubcascadeModel" "lastBulk" "I") (by decide +kernel)) (fun _ h9 => h9) rfl dX14_bulk_7 ?_
  refine lv_istore (lv' := [(4, .int (-1)), (3, .int 0), (2, .int 0), (1, .int 0), (0, .ref (am 0))]) hx hb dX14_bulk_10 hl (by decide) rfl (fun ls hl => ?_)
  refine lv_iload_n hx hb dX14_bulk_12 rfl (lv_at hl 1 rfl) ?_
  refine lv_bipush (v := 12) hx hb dX14_bulk_13 (by decide) ?_
  refine lv_icmp_ge (tgt := 147) hx hb dX14_bulk_15 (by decide) (fun c => absurd c (by decide)) (fun _ => ?_)
  refine lv_iload hx hb dX14_bulk_18 (lv_at hl 0 rfl) ?_
  refine lv_iconst (v := 1) hx hb dX14_bulk_20 (by decide) ?_
  refine lv_iadd hx hb dX14_bulk_21 ?_
  refine lv_topi (fun y ey => ?_)
  obtain rfl : y = 0 := ey.trans (by decide)
  refine lv_bipush (v := 12) hx hb dX14_bulk_22 (by decide) ?_
  refine lv_irem hx hb dX14_bulk_24 (by decide) ?_
  refine lv_topi (fun y ey => ?_)
  obtain rfl : y = 0 := ey.trans (by decide)
  refine lv_istore (lv' := [(4, .int 0), (3, .int 0), (2, .int 0), (1, .int 0), (0, .ref (am 0))]) hx hb dX14_bulk_25 hl (by decide) rfl (fun ls hl => ?_)
  refine lv_aload_n hx hb dX14_bulk_27 rfl (lv_at hl 4 rfl) ?_
  refine va_get (D := D) (ci := 19) (v := .ref (am 4)) (C := RX14) (T := TX14) (N := 19) hx hb hts iw_X14_bulk_RX14 hown hK hP 0 rfl rfl 2 (by decide) (hts (.fieldLink RX14 18 "HubcascadeModel" "pipes" "[LHubcascadeModel$Pipe;") (by decide +kernel)) (fun _ h9 => h9) rfl dX14_bulk_28 ?_
  refine lv_iload hx hb dX14_bulk_31 (lv_at hl 0 rfl) ?_
  refine my_aldN hx hb hK hP 1 9 rfl rfl (i := 0) (j := 0) (by decide) (by decide) (by decide) rfl dX14_bulk_33 ?_
  refine lv_ifnullN (tgt := 63) hx hb dX14_bulk_34 (by decide) ?_
  refine lv_iconst (v := 0) hx hb dX14_bulk_63 (by decide) ?_
  refine lv_istore (lv' := [(5, .int 0), (4, .int 0), (3, .int 0), (2, .int 0), (1, .int 0), (0, .ref (am 0))]) hx hb dX14_bulk_64 hl (by decide) rfl (fun ls hl => ?_)
  refine lv_iload hx hb dX14_bulk_66 (lv_at hl 0 rfl) ?_
  refine lv_if_eq (tgt := 80) hx hb dX14_bulk_68 (by decide) (fun _ => ?_) (fun c => absurd (by decide) c)
  refine lv_iconst (v := 0) hx hb dX14_bulk_80 (by decide) ?_
  refine lv_istore (lv' := [(6, .int 0), (5, .int 0), (4, .int 0), (3, .int 0), (2, .int 0), (1, .int 0), (0, .ref (am 0))]) hx hb dX14_bulk_81 hl (by decide) rfl (fun ls hl => ?_)
  refine lv_iload_n hx hb dX14_bulk_83 rfl (lv_at hl 5 rfl) ?_
  refine lv_iload hx hb dX14_bulk_84 (lv_at hl 0 rfl) ?_
  refine lv_iconst (v := 2) hx hb dX14_bulk_86 (by decide) ?_
  refine lv_icmp_ne (tgt := 97) hx hb dX14_bulk_87 (by decide) (fun _ => ?_) (fun c => absurd c (by decide))
  refine lv_iconst (v := 0) hx hb dX14_bulk_97 (by decide) ?_
  refine lv_ior hx hb dX14_bulk_98 ?_
  refine lv_topi (fun y ey => ?_)
  obtain rfl : y = 0 := ey.trans (by decide)
  refine lv_istore_n (lv' := [(1, .int 0), (6, .int 0), (5, .int 0), (4, .int 0), (3, .int 0), (2, .int 0), (0, .ref (am 0))]) hx hb dX14_bulk_99 rfl hl (by decide) rfl (fun ls hl => ?_)
  refine lv_iload_n hx hb dX14_bulk_100 rfl (lv_at hl 5 rfl) ?_
  refine lv_iload hx hb dX14_bulk_101 (lv_at hl 1 rfl) ?_
  refine lv_if_le (tgt := 110) hx hb dX14_bulk_103 (by decide) (fun _ => ?_) (fun c => absurd (by decide) c)
  refine lv_iconst (v := 0) hx hb dX14_bulk_110 (by decide) ?_
  refine lv_iadd hx hb dX14_bulk_111 ?_
  refine lv_topi (fun y ey => ?_)
  obtain rfl : y = 0 := ey.trans (by decide)
  refine lv_istore_n (lv' := [(2, .int 0), (1, .int 0), (6, .int 0), (5, .int 0), (4, .int 0), (3, .int 0), (0, .ref (am 0))]) hx hb dX14_bulk_112 rfl hl (by decide) rfl (fun ls hl => ?_)
  refine lv_aload_n hx hb dX14_bulk_113 rfl (lv_at hl 6 rfl) ?_
  refine lv_iload hx hb dX14_bulk_114 (lv_at hl 2 rfl) ?_
  refine lv_if_le (tgt := 124) hx hb dX14_bulk_116 (by decide) (fun _ => ?_) (fun c => absurd (by decide) c)
  refine lv_aload_n hx hb dX14_bulk_124 rfl (lv_at hl 6 rfl) ?_
  refine va_get (D := D) (ci := 19) (v := .int (-1)) (C := RX14) (T := TX14) (N := 19) hx hb hts iw_X14_bulk_RX14 hown hK hP 0 rfl rfl 10 (by decide) (hts (.fieldLink RX14 38 "HubcascadeModel" "lastBulk" "I") (by decide +kernel)) (fun _ h9 => h9) rfl dX14_bulk_125 ?_
  refine va_put (D := D) (ci := 19) (v := .int (-1)) (ty := .int) (C := RX14) (T := TX14) (N := 19) hx hb hts iw_X14_bulk_RX14 tyX14 tyX14_ok nmX14 hown hK hP hD hS 0 rfl rfl 10 (by decide) (hts (.fieldLink RX14 38 "HubcascadeModel" "lastBulk" "I") (by decide +kernel)) (fun _ h9 => h9) rfl (by decide +kernel) rfl rfl (Nat.le_of_ble_eq_true rfl) dX14_bulk_128 (fun H locs hP hD hS => ?_)
  have hP : va_P D vwCl ([(am 0, .inr (19, [.int 0, .ref (am 1), .ref (am 4), .ref (am 5), .ref (am 6), .ref (am 7), .ref (am 8), .int 0, .ref (am 9), .int 1, .int (-1), .int 100, .ref (am 10), .long 0, .int 0, .int 0, .int 0, .int 0, .long 0])), (am 4, .inl (cy 9, 12, .inr (.inr (.inr (.inr (fun _ => none))))))]) H := hP
  have hD : va_D A ([(am 0, .inr (19, [.int 0, .ref (am 1), .ref (am 4), .ref (am 5), .ref (am 6), .ref (am 7), .ref (am 8), .int 0, .ref (am 9), .int 1, .int (-1), .int 100, .ref (am 10), .long 0, .int 0, .int 0, .int 0, .int 0, .long 0])), (am 4, .inl (cy 9, 12, .inr (.inr (.inr (.inr (fun _ => none))))))]) := hD
  refine lv_iload hx hb dX14_bulk_131 (lv_at hl 2 rfl) ?_
  refine lv_if_le (tgt := 140) hx hb dX14_bulk_133 (by decide) (fun _ => ?_) (fun c => absurd (by decide) c)
  refine lv_iload_n hx hb dX14_bulk_140 rfl (lv_at hl 5 rfl) ?_
  refine lv_iconst (v := 1) hx hb dX14_bulk_141 (by decide) ?_
  refine lv_iadd hx hb dX14_bulk_142 ?_
  refine lv_topi (fun y ey => ?_)
  obtain rfl : y = 1 := ey.trans (by decide)
  refine lv_istore_n (lv' := [(3, .int 1), (2, .int 0), (1, .int 0), (6, .int 0), (5, .int 0), (4, .int 0), (0, .ref (am 0))]) hx hb dX14_bulk_143 rfl hl (by decide) rfl (fun ls hl => ?_)
  refine lv_goto (tgt := 12) hx hb dX14_bulk_144 (by decide) ?_
  refine lv_iload_n hx hb dX14_bulk_12 rfl (lv_at hl 0 rfl) ?_
  refine lv_bipush (v := 12) hx hb dX14_bulk_13 (by decide) ?_
  refine lv_icmp_ge (tgt := 147) hx hb dX14_bulk_15 (by decide) (fun c => absurd c (by decide)) (fun _ => ?_)
  refine lv_iload hx hb dX14_bulk_18 (lv_at hl 5 rfl) ?_
  refine lv_iconst (v := 1) hx hb dX14_bulk_20 (by decide) ?_
  refine lv_iadd hx hb dX14_bulk_21 ?_
  refine lv_topi (fun y ey => ?_)
  obtain rfl : y = 1 := ey.trans (by decide)
  refine lv_bipush (v := 12) hx hb dX14_bulk_22 (by decide) ?_
  refine lv_irem hx hb dX14_bulk_24 (by decide) ?_
  refine lv_topi (fun y ey => ?_)
  obtain rfl : y = 1 := ey.trans (by decide)
  refine lv_istore (lv' := [(4, .int 1), (3, .int 1), (2, .int 0), (1, .int 0), (6, .int 0), (5, .int 0), (0, .ref (am 0))]) hx hb dX14_bulk_25 hl (by decide) rfl (fun ls hl => ?_)
  refine lv_aload_n hx hb dX14_bulk_27 rfl (lv_at hl 6 rfl) ?_
  refine va_get (D := D) (ci := 19) (v := .ref (am 4)) (C := RX14) (T := TX14) (N := 19) hx hb hts iw_X14_bulk_RX14 hown hK hP 0 rfl rfl 2 (by decide) (hts (.fieldLink RX14 18 "HubcascadeModel" "pipes" "[LHubcascadeModel$Pipe;") (by decide +kernel)) (fun _ h9 => h9) rfl dX14_bulk_28 ?_
  refine lv_iload hx hb dX14_bulk_31 (lv_at hl 0 rfl) ?_
  refine my_aldN hx hb hK hP 1 9 rfl rfl (i := 1) (j := 1) (by decide) (by decide) (by decide) rfl dX14_bulk_33 ?_
  refine lv_ifnullN (tgt := 63) hx hb dX14_bulk_34 (by decide) ?_
  refine lv_iconst (v := 0) hx hb dX14_bulk_63 (by decide) ?_
  refine lv_istore (lv' := [(5, .int 0), (4, .int 1), (3, .int 1), (2, .int 0), (1, .int 0), (6, .int 0), (0, .ref (am 0))]) hx hb dX14_bulk_64 hl (by decide) rfl (fun ls hl => ?_)
  refine lv_iload hx hb dX14_bulk_66 (lv_at hl 0 rfl) ?_
  refine lv_if_eq (tgt := 80) hx hb dX14_bulk_68 (by decide) (fun _ => ?_) (fun c => absurd (by decide) c)
  refine lv_iconst (v := 0) hx hb dX14_bulk_80 (by decide) ?_
  refine lv_istore (lv' := [(6, .int 0), (5, .int 0), (4, .int 1), (3, .int 1), (2, .int 0), (1, .int 0), (0, .ref (am 0))]) hx hb dX14_bulk_81 hl (by decide) rfl (fun ls hl => ?_)
  refine lv_iload_n hx hb dX14_bulk_83 rfl (lv_at hl 5 rfl) ?_
  refine lv_iload hx hb dX14_bulk_84 (lv_at hl 0 rfl) ?_
  refine lv_iconst (v := 2) hx hb dX14_bulk_86 (by decide) ?_
  refine lv_icmp_ne (tgt := 97) hx hb dX14_bulk_87 (by decide) (fun _ => ?_) (fun c => absurd c (by decide))
  refine lv_iconst (v := 0) hx hb dX14_bulk_97 (by decide) ?_
  refine lv_ior hx hb dX14_bulk_98 ?_
  refine lv_topi (fun y ey => ?_)
  obtain rfl : y = 0 := ey.trans (by decide)
  refine lv_istore_n (lv' := [(1, .int 0), (6, .int 0), (5, .int 0), (4, .int 1), (3, .int 1), (2, .int 0), (0, .ref (am 0))]) hx hb dX14_bulk_99 rfl hl (by decide) rfl (fun ls hl => ?_)
  refine lv_iload_n hx hb dX14_bulk_100 rfl (lv_at hl 5 rfl) ?_
  refine lv_iload hx hb dX14_bulk_101 (lv_at hl 1 rfl) ?_
  refine lv_if_le (tgt := 110) hx hb dX14_bulk_103 (by decide) (fun _ => ?_) (fun c => absurd (by decide) c)
  refine lv_iconst (v := 0) hx hb dX14_bulk_110 (by decide) ?_
  refine lv_iadd hx hb dX14_bulk_111 ?_
  refine lv_topi (fun y ey => ?_)
  obtain rfl : y = 0 := ey.trans (by decide)
  refine lv_istore_n (lv' := [(2, .int 0), (1, .int 0), (6, .int 0), (5, .int 0), (4, .int 1), (3, .int 1), (0, .ref (am 0))]) hx hb dX14_bulk_112 rfl hl (by decide) rfl (fun ls hl => ?_)
  refine lv_aload_n hx hb dX14_bulk_113 rfl (lv_at hl 6 rfl) ?_
  refine lv_iload hx hb dX14_bulk_114 (lv_at hl 2 rfl) ?_
  refine lv_if_le (tgt := 124) hx hb dX14_bulk_116 (by decide) (fun _ => ?_) (fun c => absurd (by decide) c)
  refine lv_aload_n hx hb dX14_bulk_124 rfl (lv_at hl 6 rfl) ?_
  refine va_get (D := D) (ci := 19) (v := .int (-1)) (C := RX14) (T := TX14) (N := 19) hx hb hts iw_X14_bulk_RX14 hown hK hP 0 rfl rfl 10 (by decide) (hts (.fieldLink RX14 38 "HubcascadeModel" "lastBulk" "I") (by decide +kernel)) (fun _ h9 => h9) rfl dX14_bulk_125 ?_
  refine va_put (D := D) (ci := 19) (v := .int (-1)) (ty := .int) (C := RX14) (T := TX14) (N := 19) hx hb hts iw_X14_bulk_RX14 tyX14 tyX14_ok nmX14 hown hK hP hD hS 0 rfl rfl 10 (by decide) (hts (.fieldLink RX14 38 "HubcascadeModel" "lastBulk" "I") (by decide +kernel)) (fun _ h9 => h9) rfl (by decide +kernel) rfl rfl (Nat.le_of_ble_eq_true rfl) dX14_bulk_128 (fun H locs hP hD hS => ?_)
  have hP : va_P D vwCl ([(am 0, .inr (19, [.int 0, .ref (am 1), .ref (am 4), .ref (am 5), .ref (am 6), .ref (am 7), .ref (am 8), .int 0, .ref (am 9), .int 1, .int (-1), .int 100, .ref (am 10), .long 0, .int 0, .int 0, .int 0, .int 0, .long 0])), (am 4, .inl (cy 9, 12, .inr (.inr (.inr (.inr (fun _ => none))))))]) H := hP
  have hD : va_D A ([(am 0, .inr (19, [.int 0, .ref (am 1), .ref (am 4), .ref (am 5), .ref (am 6), .ref (am 7), .ref (am 8), .int 0, .ref (am 9), .int 1, .int (-1), .int 100, .ref (am 10), .long 0, .int 0, .int 0, .int 0, .int 0, .long 0])), (am 4, .inl (cy 9, 12, .inr (.inr (.inr (.inr (fun _ => none))))))]) := hD
  refine lv_iload hx hb dX14_bulk_131 (lv_at hl 2 rfl) ?_
  refine lv_if_le (tgt := 140) hx hb dX14_bulk_133 (by decide) (fun _ => ?_) (fun c => absurd (by decide) c)
  refine lv_iload_n hx hb dX14_bulk_140 rfl (lv_at hl 5 rfl) ?_
  refine lv_iconst (v := 1) hx hb dX14_bulk_141 (by decide) ?_
  refine lv_iadd hx hb dX14_bulk_142 ?_
  refine lv_topi (fun y ey => ?_)
  obtain rfl : y = 2 := ey.trans (by decide)
  refine lv_istore_n (lv' := [(3, .int 2), (2, .int 0), (1, .int 0), (6, .int 0), (5, .int 0), (4, .int 1), (0, .ref (am 0))]) hx hb dX14_bulk_143 rfl hl (by decide) rfl (fun ls hl => ?_)
  refine lv_goto (tgt := 12) hx hb dX14_bulk_144 (by decide) ?_
  refine lv_iload_n hx hb dX14_bulk_12 rfl (lv_at hl 0 rfl) ?_
  refine lv_bipush (v := 12) hx hb dX14_bulk_13 (by decide) ?_
  refine lv_icmp_ge (tgt := 147) hx hb dX14_bulk_15 (by decide) (fun c => absurd c (by decide)) (fun _ => ?_)
  refine lv_iload hx hb dX14_bulk_18 (lv_at hl 5 rfl) ?_
  refine lv_iconst (v := 1) hx hb dX14_bulk_20 (by decide) ?_
  refine lv_iadd hx hb dX14_bulk_21 ?_
  refine lv_topi (fun y ey => ?_)
  obtain rfl : y = 2 := ey.trans (by decide)
  refine lv_bipush (v := 12) hx hb dX14_bulk_22 (by decide) ?_
  refine lv_irem hx hb dX14_bulk_24 (by decide) ?_
  refine lv_topi (fun y ey => ?_)
  obtain rfl : y = 2 := ey.trans (by decide)
  refine lv_istore (lv' := [(4, .int 2), (3, .int 2), (2, .int 0), (1, .int 0), (6, .int 0), (5, .int 0), (0, .ref (am 0))]) hx hb dX14_bulk_25 hl (by decide) rfl (fun ls hl => ?_)
  refine lv_aload_n hx hb dX14_bulk_27 rfl (lv_at hl 6 rfl) ?_
  refine va_get (D := D) (ci := 19) (v := .ref (am 4)) (C := RX14) (T := TX14) (N := 19) hx hb hts iw_X14_bulk_RX14 hown hK hP 0 rfl rfl 2 (by decide) (hts (.fieldLink RX14 18 "HubcascadeModel" "pipes" "[LHubcascadeModel$Pipe;") (by decide +kernel)) (fun _ h9 => h9) rfl dX14_bulk_28 ?_
  refine lv_iload hx hb dX14_bulk_31 (lv_at hl 0 rfl) ?_
  refine my_aldN hx hb hK hP 1 9 rfl rfl (i := 2) (j := 2) (by decide) (by decide) (by decide) rfl dX14_bulk_33 ?_
  refine lv_ifnullN (tgt := 63) hx hb dX14_bulk_34 (by decide) ?_
  refine lv_iconst (v := 0) hx hb dX14_bulk_63 (by decide) ?_
  refine lv_istore (lv' := [(5, .int 0), (4, .int 2), (3, .int 2), (2, .int 0), (1, .int 0), (6, .int 0), (0, .ref (am 0))]) hx hb dX14_bulk_64 hl (by decide) rfl (fun ls hl => ?_)
  refine lv_iload hx hb dX14_bulk_66 (lv_at hl 0 rfl) ?_
  refine lv_if_eq (tgt := 80) hx hb dX14_bulk_68 (by decide) (fun _ => ?_) (fun c => absurd (by decide) c)
  refine lv_iconst (v := 0) hx hb dX14_bulk_80 (by decide) ?_
  refine lv_istore (lv' := [(6, .int 0), (5, .int 0), (4, .int 2), (3, .int 2), (2, .int 0), (1, .int 0), (0, .ref (am 0))]) hx hb dX14_bulk_81 hl (by decide) rfl (fun ls hl => ?_)
  refine lv_iload_n hx hb dX14_bulk_83 rfl (lv_at hl 5 rfl) ?_
  refine lv_iload hx hb dX14_bulk_84 (lv_at hl 0 rfl) ?_
  refine lv_iconst (v := 2) hx hb dX14_bulk_86 (by decide) ?_
  refine lv_icmp_ne (tgt := 97) hx hb dX14_bulk_87 (by decide) (fun _ => ?_) (fun c => absurd c (by decide))
  refine lv_iconst (v := 0) hx hb dX14_bulk_97 (by decide) ?_
  refine lv_ior hx hb dX14_bulk_98 ?_
  refine lv_topi (fun y ey => ?_)
  obtain rfl : y = 0 := ey.trans (by decide)
  refine lv_istore_n (lv' := [(1, .int 0), (6, .int 0), (5, .int 0), (4, .int 2), (3, .int 2), (2, .int 0), (0, .ref (am 0))]) hx hb dX14_bulk_99 rfl hl (by decide) rfl (fun ls hl => ?_)
  refine lv_iload_n hx hb dX14_bulk_100 rfl (lv_at hl 5 rfl) ?_
  refine lv_iload hx hb dX14_bulk_101 (lv_at hl 1 rfl) ?_
  refine lv_if_le (tgt := 110) hx hb dX14_bulk_103 (by decide) (fun _ => ?_) (fun c => absurd (by decide) c)
  refine lv_iconst (v := 0) hx hb dX14_bulk_110 (by decide) ?_
  refine lv_iadd hx hb dX14_bulk_111 ?_
  refine lv_topi (fun y ey => ?_)
  obtain rfl : y = 0 := ey.trans (by decide)
  refine lv_istore_n (lv' := [(2, .int 0), (1, .int 0), (6, .int 0), (5, .int 0), (4, .int 2), (3, .int 2), (0, .ref (am 0))]) hx hb dX14_bulk_112 rfl hl (by decide) rfl (fun ls hl => ?_)
  refine lv_aload_n hx hb dX14_bulk_113 rfl (lv_at hl 6 rfl) ?_
  refine lv_iload hx hb dX14_bulk_114 (lv_at hl 2 rfl) ?_
  refine lv_if_le (tgt := 124) hx hb dX14_bulk_116 (by decide) (fun _ => ?_) (fun c => absurd (by decide) c)
  refine lv_aload_n hx hb dX14_bulk_124 rfl (lv_at hl 6 rfl) ?_
  refine va_get (D := D) (ci := 19) (v := .int (-1)) (C := RX14) (T := TX14) (N := 19) hx hb hts iw_X14_bulk_RX14 hown hK hP 0 rfl rfl 10 (by decide) (hts (.fieldLink RX14 38 "HubcascadeModel" "lastBulk" "I") (by decide +kernel)) (fun _ h9 => h9) rfl dX14_bulk_125 ?_
  refine va_put (D := D) (ci := 19) (v := .int (-1)) (ty := .int) (C := RX14) (T := TX14) (N := 19) hx hb hts iw_X14_bulk_RX14 tyX14 tyX14_ok nmX14 hown hK hP hD hS 0 rfl rfl 10 (by decide) (hts (.fieldLink RX14 38 "HubcascadeModel" "lastBulk" "I") (by decide +kernel)) (fun _ h9 => h9) rfl (by decide +kernel) rfl rfl (Nat.le_of_ble_eq_true rfl) dX14_bulk_128 (fun H locs hP hD hS => ?_)
  have hP : va_P D vwCl ([(am 0, .inr (19, [.int 0, .ref (am 1), .ref (am 4), .ref (am 5), .ref (am 6), .ref (am 7), .ref (am 8), .int 0, .ref (am 9), .int 1, .int (-1), .int 100, .ref (am 10), .long 0, .int 0, .int 0, .int 0, .int 0, .long 0])), (am 4, .inl (cy 9, 12, .inr (.inr (.inr (.inr (fun _ => none))))))]) H := hP
  have hD : va_D A ([(am 0, .inr (19, [.int 0, .ref (am 1), .ref (am 4), .ref (am 5), .ref (am 6), .ref (am 7), .ref (am 8), .int 0, .ref (am 9), .int 1, .int (-1), .int 100, .ref (am 10), .long 0, .int 0, .int 0, .int 0, .int 0, .long 0])), (am 4, .inl (cy 9, 12, .inr (.inr (.inr (.inr (fun _ => none))))))]) := hD
  refine lv_iload hx hb dX14_bulk_131 (lv_at hl 2 rfl) ?_
  refine lv_if_le (tgt := 140) hx hb dX14_bulk_133 (by decide) (fun _ => ?_) (fun c => absurd (by decide) c)
  refine lv_iload_n hx hb dX14_bulk_140 rfl (lv_at hl 5 rfl) ?_
  refine lv_iconst (v := 1) hx hb dX14_bulk_141 (by decide) ?_
  refine lv_iadd hx hb dX14_bulk_142 ?_
  refine lv_topi (fun y ey => ?_)
  obtain rfl : y = 3 := ey.trans (by decide)
  refine lv_istore_n (lv' := [(3, .int 3), (2, .int 0), (1, .int 0), (6, .int 0), (5, .int 0), (4, .int 2), (0, .ref (am 0))]) hx hb dX14_bulk_143 rfl hl (by decide) rfl (fun ls hl => ?_)
  refine lv_goto (tgt := 12) hx hb dX14_bulk_144 (by decide) ?_
  refine lv_iload_n hx hb dX14_bulk_12 rfl (lv_at hl 0 rfl) ?_
  refine lv_bipush (v := 12) hx hb dX14_bulk_13 (by decide) ?_
  refine lv_icmp_ge (tgt := 147) hx hb dX14_bulk_15 (by decide) (fun c => absurd c (by decide)) (fun _ => ?_)
  refine lv_iload hx hb dX14_bulk_18 (lv_at hl 5 rfl) ?_
  refine lv_iconst (v := 1) hx hb dX14_bulk_20 (by decide) ?_
  refine lv_iadd hx hb dX14_bulk_21 ?_
  refine lv_topi (fun y ey => ?_)
  obtain rfl : y = 3 := ey.trans (by decide)
  refine lv_bipush (v := 12) hx hb dX14_bulk_22 (by decide) ?_
  refine lv_irem hx hb dX14_bulk_24 (by decide) ?_
  refine lv_topi (fun y ey => ?_)
  obtain rfl : y = 3 := ey.trans (by decide)
  refine lv_istore (lv' := [(4, .int 3), (3, .int 3), (2, .int 0), (1, .int 0), (6, .int 0), (5, .int 0), (0, .ref (am 0))]) hx hb dX14_bulk_25 hl (by decide) rfl (fun ls hl => ?_)
  refine lv_aload_n hx hb dX14_bulk_27 rfl (lv_at hl 6 rfl) ?_
  refine va_get (D := D) (ci := 19) (v := .ref (am 4)) (C := RX14) (T := TX14) (N := 19) hx hb hts iw_X14_bulk_RX14 hown hK hP 0 rfl rfl 2 (by decide) (hts (.fieldLink RX14 18 "HubcascadeModel" "pipes" "[LHubcascadeModel$Pipe;") (by decide +kernel)) (fun _ h9 => h9) rfl dX14_bulk_28 ?_
  refine lv_iload hx hb dX14_bulk_31 (lv_at hl 0 rfl) ?_
  refine my_aldN hx hb hK hP 1 9 rfl rfl (i := 3) (j := 3) (by decide) (by decide) (by decide) rfl dX14_bulk_33 ?_
  refine lv_ifnullN (tgt := 63) hx hb dX14_bulk_34 (by decide) ?_
  refine lv_iconst (v := 0) hx hb dX14_bulk_63 (by decide) ?_
  refine lv_istore (lv' := [(5, .int 0), (4, .int 3), (3, .int 3), (2, .int 0), (1, .int 0), (6, .int 0), (0, .ref (am 0))]) hx hb dX14_bulk_64 hl (by decide) rfl (fun ls hl => ?_)
  refine lv_iload hx hb dX14_bulk_66 (lv_at hl 0 rfl) ?_
  refine lv_if_eq (tgt := 80) hx hb dX14_bulk_68 (by decide) (fun _ => ?_) (fun c => absurd (by decide) c)
  refine lv_iconst (v := 0) hx hb dX14_bulk_80 (by decide) ?_
  refine lv_istore (lv' := [(6, .int 0), (5, .int 0), (4, .int 3), (3, .int 3), (2, .int 0), (1, .int 0), (0, .ref (am 0))]) hx hb dX14_bulk_81 hl (by decide) rfl (fun ls hl => ?_)
  refine lv_iload_n hx hb dX14_bulk_83 rfl (lv_at hl 5 rfl) ?_
  refine lv_iload hx hb dX14_bulk_84 (lv_at hl 0 rfl) ?_
  refine lv_iconst (v := 2) hx hb dX14_bulk_86 (by decide) ?_
  refine lv_icmp_ne (tgt := 97) hx hb dX14_bulk_87 (by decide) (fun _ => ?_) (fun c => absurd c (by decide))
  refine lv_iconst (v := 0) hx hb dX14_bulk_97 (by decide) ?_
  refine lv_ior hx hb dX14_bulk_98 ?_
  refine lv_topi (fun y ey => ?_)
  obtain rfl : y = 0 := ey.trans (by decide)
  refine lv_istore_n (lv' := [(1, .int 0), (6, .int 0), (5, .int 0), (4, .int 3), (3, .int 3), (2, .int 0), (0, .ref (am 0))]) hx hb dX14_bulk_99 rfl hl (by decide) rfl (fun ls hl => ?_)
  refine lv_iload_n hx hb dX14_bulk_100 rfl (lv_at hl 5 rfl) ?_
  refine lv_iload hx hb dX14_bulk_101 (lv_at hl 1 rfl) ?_
  refine lv_if_le (tgt := 110) hx hb dX14_bulk_103 (by decide) (fun _ => ?_) (fun c => absurd (by decide) c)
  refine lv_iconst (v := 0) hx hb dX14_bulk_110 (by decide) ?_
  refine lv_iadd hx hb dX14_bulk_111 ?_
  refine lv_topi (fun y ey => ?_)
  obtain rfl : y = 0 := ey.trans (by decide)
  refine lv_istore_n (lv' := [(2, .int 0), (1, .int 0), (6, .int 0), (5, .int 0), (4, .int 3), (3, .int 3), (0, .ref (am 0))]) hx hb dX14_bulk_112 rfl hl (by decide) rfl (fun ls hl => ?_)
  refine lv_aload_n hx hb dX14_bulk_113 rfl (lv_at hl 6 rfl) ?_
  refine lv_iload hx hb dX14_bulk_114 (lv_at hl 2 rfl) ?_
  refine lv_if_le (tgt := 124) hx hb dX14_bulk_116 (by decide) (fun _ => ?_) (fun c => absurd (by decide) c)
  refine lv_aload_n hx hb dX14_bulk_124 rfl (lv_at hl 6 rfl) ?_
  refine va_get (D := D) (ci := 19) (v := .int (-1)) (C := RX14) (T := TX14) (N := 19) hx hb hts iw_X14_bulk_RX14 hown hK hP 0 rfl rfl 10 (by decide) (hts (.fieldLink RX14 38 "HubcascadeModel" "lastBulk" "I") (by decide +kernel)) (fun _ h9 => h9) rfl dX14_bulk_125 ?_
  refine va_put (D := D) (ci := 19) (v := .int (-1)) (ty := .int) (C := RX14) (T := TX14) (N := 19) hx hb hts iw_X14_bulk_RX14 tyX14 tyX14_ok nmX14 hown hK hP hD hS 0 rfl rfl 10 (by decide) (hts (.fieldLink RX14 38 "HubcascadeModel" "lastBulk" "I") (by decide +kernel)) (fun _ h9 => h9) rfl (by decide +kernel) rfl rfl (Nat.le_of_ble_eq_true rfl) dX14_bulk_128 (fun H locs hP hD hS => ?_)
  have hP : va_P D vwCl ([(am 0, .inr (19, [.int 0, .ref (am 1), .ref (am 4), .ref (am 5), .ref (am 6), .ref (am 7), .ref (am 8), .int 0, .ref (am 9), .int 1, .int (-1), .int 100, .ref (am 10), .long 0, .int 0, .int 0, .int 0, .int 0, .long 0])), (am 4, .inl (cy 9, 12, .inr (.inr (.inr (.inr (fun _ => none))))))]) H := hP
  have hD : va_D A ([(am 0, .inr (19, [.int 0, .ref (am 1), .ref (am 4), .ref (am 5), .ref (am 6), .ref (am 7), .ref (am 8), .int 0, .ref (am 9), .int 1, .int (-1), .int 100, .ref (am 10), .long 0, .int 0, .int 0, .int 0, .int 0, .long 0])), (am 4, .inl (cy 9, 12, .inr (.inr (.inr (.inr (fun _ => none))))))]) := hD
  refine lv_iload hx hb dX14_bulk_131 (lv_at hl 2 rfl) ?_
  refine lv_if_le (tgt := 140) hx hb dX14_bulk_133 (by decide) (fun _ => ?_) (fun c => absurd (by decide) c)
  refine lv_iload_n hx hb dX14_bulk_140 rfl (lv_at hl 5 rfl) ?_
  refine lv_iconst (v := 1) hx hb dX14_bulk_141 (by decide) ?_
  refine lv_iadd hx hb dX14_bulk_142 ?_
  refine lv_topi (fun y ey => ?_)
  obtain rfl : y = 4 := ey.trans (by decide)
  refine lv_istore_n (lv' := [(3, .int 4), (2, .int 0), (1, .int 0), (6, .int 0), (5, .int 0), (4, .int 3), (0, .ref (am 0))]) hx hb dX14_bulk_143 rfl hl (by decide) rfl (fun ls hl => ?_)
  refine lv_goto (tgt := 12) hx hb dX14_bulk_144 (by decide) ?_
  refine lv_iload_n hx hb dX14_bulk_12 rfl (lv_at hl 0 rfl) ?_
  refine lv_bipush (v := 12) hx hb dX14_bulk_13 (by decide) ?_
  refine lv_icmp_ge (tgt := 147) hx hb dX14_bulk_15 (by decide) (fun c => absurd c (by decide)) (fun _ => ?_)
  refine lv_iload hx hb dX14_bulk_18 (lv_at hl 5 rfl) ?_
  refine lv_iconst (v := 1) hx hb dX14_bulk_20 (by decide) ?_
  refine lv_iadd hx hb dX14_bulk_21 ?_
  refine lv_topi (fun y ey => ?_)
  obtain rfl : y = 4 := ey.trans (by decide)
  refine lv_bipush (v := 12) hx hb dX14_bulk_22 (by decide) ?_
  refine lv_irem hx hb dX14_bulk_24 (by decide) ?_
  refine lv_topi (fun y ey => ?_)
  obtain rfl : y = 4 := ey.trans (by decide)
  refine lv_istore (lv' := [(4, .int 4), (3, .int 4), (2, .int 0), (1, .int 0), (6, .int 0), (5, .int 0), (0, .ref (am 0))]) hx hb dX14_bulk_25 hl (by decide) rfl (fun ls hl => ?_)
  refine lv_aload_n hx hb dX14_bulk_27 rfl (lv_at hl 6 rfl) ?_
  refine va_get (D := D) (ci := 19) (v := .ref (am 4)) (C := RX14) (T := TX14) (N := 19) hx hb hts iw_X14_bulk_RX14 hown hK hP 0 rfl rfl 2 (by decide) (hts (.fieldLink RX14 18 "HubcascadeModel" "pipes" "[LHubcascadeModel$Pipe;") (by decide +kernel)) (fun _ h9 => h9) rfl dX14_bulk_28 ?_
  refine lv_iload hx hb dX14_bulk_31 (lv_at hl 0 rfl) ?_
  refine my_aldN hx hb hK hP 1 9 rfl rfl (i := 4) (j := 4) (by decide) (by decide) (by decide) rfl dX14_bulk_33 ?_
  refine lv_ifnullN (tgt := 63) hx hb dX14_bulk_34 (by decide) ?_
  refine lv_iconst (v := 0) hx hb dX14_bulk_63 (by decide) ?_
  refine lv_istore (lv' := [(5, .int 0), (4, .int 4), (3, .int 4), (2, .int 0), (1, .int 0), (6, .int 0), (0, .ref (am 0))]) hx hb dX14_bulk_64 hl (by decide) rfl (fun ls hl => ?_)
  refine lv_iload hx hb dX14_bulk_66 (lv_at hl 0 rfl) ?_
  refine lv_if_eq (tgt := 80) hx hb dX14_bulk_68 (by decide) (fun _ => ?_) (fun c => absurd (by decide) c)
  refine lv_iconst (v := 0) hx hb dX14_bulk_80 (by decide) ?_
  refine lv_istore (lv' := [(6, .int 0), (5, .int 0), (4, .int 4), (3, .int 4), (2, .int 0), (1, .int 0), (0, .ref (am 0))]) hx hb dX14_bulk_81 hl (by decide) rfl (fun ls hl => ?_)
  refine lv_iload_n hx hb dX14_bulk_83 rfl (lv_at hl 5 rfl) ?_
  refine lv_iload hx hb dX14_bulk_84 (lv_at hl 0 rfl) ?_
  refine lv_iconst (v := 2) hx hb dX14_bulk_86 (by decide) ?_
  refine lv_icmp_ne (tgt := 97) hx hb dX14_bulk_87 (by decide) (fun _ => ?_) (fun c => absurd c (by decide))
  refine lv_iconst (v := 0) hx hb dX14_bulk_97 (by decide) ?_
  refine lv_ior hx hb dX14_bulk_98 ?_
  refine lv_topi (fun y ey => ?_)
  obtain rfl : y = 0 := ey.trans (by decide)
  refine lv_istore_n (lv' := [(1, .int 0), (6, .int 0), (5, .int 0), (4, .int 4), (3, .int 4), (2, .int 0), (0, .ref (am 0))]) hx hb dX14_bulk_99 rfl hl (by decide) rfl (fun ls hl => ?_)
  refine lv_iload_n hx hb dX14_bulk_100 rfl (lv_at hl 5 rfl) ?_
  refine lv_iload hx hb dX14_bulk_101 (lv_at hl 1 rfl) ?_
  refine lv_if_le (tgt := 110) hx hb dX14_bulk_103 (by decide) (fun _ => ?_) (fun c => absurd (by decide) c)
  refine lv_iconst (v := 0) hx hb dX14_bulk_110 (by decide) ?_
  refine lv_iadd hx hb dX14_bulk_111 ?_
  refine lv_topi (fun y ey => ?_)
  obtain rfl : y = 0 := ey.trans (by decide)
  refine lv_istore_n (lv' := [(2, .int 0), (1, .int 0), (6, .int 0), (5, .int 0), (4, .int 4), (3, .int 4), (0, .ref (am 0))]) hx hb dX14_bulk_112 rfl hl (by decide) rfl (fun ls hl => ?_)
  refine lv_aload_n hx hb dX14_bulk_113 rfl (lv_at hl 6 rfl) ?_
  refine lv_iload hx hb dX14_bulk_114 (lv_at hl 2 rfl) ?_
  refine lv_if_le (tgt := 124) hx hb dX14_bulk_116 (by decide) (fun _ => ?_) (fun c => absurd (by decide) c)
  refine lv_aload_n hx hb dX14_bulk_124 rfl (lv_at hl 6 rfl) ?_
  refine va_get (D := D) (ci := 19) (v := .int (-1)) (C := RX14) (T := TX14) (N := 19) hx hb hts iw_X14_bulk_RX14 hown hK hP 0 rfl rfl 10 (by decide) (hts (.fieldLink RX14 38 "HubcascadeModel" "lastBulk" "I") (by decide +kernel)) (fun _ h9 => h9) rfl dX14_bulk_125 ?_
  refine va_put (D := D) (ci := 19) (v := .int (-1)) (ty := .int) (C := RX14) (T := TX14) (N := 19) hx hb hts iw_X14_bulk_RX14 tyX14 tyX14_ok nmX14 hown hK hP hD hS 0 rfl rfl 10 (by decide) (hts (.fieldLink RX14 38 "HubcascadeModel" "lastBulk" "I") (by decide +kernel)) (fun _ h9 => h9) rfl (by decide +kernel) rfl rfl (Nat.le_of_ble_eq_true rfl) dX14_bulk_128 (fun H locs hP hD hS => ?_)
  have hP : va_P D vwCl ([(am 0, .inr (19, [.int 0, .ref (am 1), .ref (am 4), .ref (am 5), .ref (am 6), .ref (am 7), .ref (am 8), .int 0, .ref (am 9), .int 1, .int (-1), .int 100, .ref (am 10), .long 0, .int 0, .int 0, .int 0, .int 0, .long 0])), (am 4, .inl (cy 9, 12, .inr (.inr (.inr (.inr (fun _ => none))))))]) H := hP
  have hD : va_D A ([(am 0, .inr (19, [.int 0, .ref (am 1), .ref (am 4), .ref (am 5), .ref (am 6), .ref (am 7), .ref (am 8), .int 0, .ref (am 9), .int 1, .int (-1), .int 100, .ref (am 10), .long 0, .int 0, .int 0, .int 0, .int 0, .long 0])), (am 4, .inl (cy 9, 12, .inr (.inr (.inr (.inr (fun _ => none))))))]) := hD
  refine lv_iload hx hb dX14_bulk_131 (lv_at hl 2 rfl) ?_
  refine lv_if_le (tgt := 140) hx hb dX14_bulk_133 (by decide) (fun _ => ?_) (fun c => absurd (by decide) c)
  refine lv_iload_n hx hb dX14_bulk_140 rfl (lv_at hl 5 rfl) ?_
  refine lv_iconst (v := 1) hx hb dX14_bulk_141 (by decide) ?_
  refine lv_iadd hx hb dX14_bulk_142 ?_
  refine lv_topi (fun y ey => ?_)
  obtain rfl : y = 5 := ey.trans (by decide)
  refine lv_istore_n (lv' := [(3, .int 5), (2, .int 0), (1, .int 0), (6, .int 0), (5, .int 0), (4, .int 4), (0, .ref (am 0))]) hx hb dX14_bulk_143 rfl hl (by decide) rfl (fun ls hl => ?_)
  refine lv_goto (tgt := 12) hx hb dX14_bulk_144 (by decide) ?_
  refine lv_iload_n hx hb dX14_bulk_12 rfl (lv_at hl 0 rfl) ?_
  refine lv_bipush (v := 12) hx hb dX14_bulk_13 (by decide) ?_
  refine lv_icmp_ge (tgt := 147) hx hb dX14_bulk_15 (by decide) (fun c => absurd c (by decide)) (fun _ => ?_)
  refine lv_iload hx hb dX14_bulk_18 (lv_at hl 5 rfl) ?_
  refine lv_iconst (v := 1) hx hb dX14_bulk_20 (by decide) ?_
  refine lv_iadd hx hb dX14_bulk_21 ?_
  refine lv_topi (fun y ey => ?_)
  obtain rfl : y = 5 := ey.trans (by decide)
  refine lv_bipush (v := 12) hx hb dX14_bulk_22 (by decide) ?_
  refine lv_irem hx hb dX14_bulk_24 (by decide) ?_
  refine lv_topi (fun y ey => ?_)
  obtain rfl : y = 5 := ey.trans (by decide)
  refine lv_istore (lv' := [(4, .int 5), (3, .int 5), (2, .int 0), (1, .int 0), (6, .int 0), (5, .int 0), (0, .ref (am 0))]) hx hb dX14_bulk_25 hl (by decide) rfl (fun ls hl => ?_)
  refine lv_aload_n hx hb dX14_bulk_27 rfl (lv_at hl 6 rfl) ?_
  refine va_get (D := D) (ci := 19) (v := .ref (am 4)) (C := RX14) (T := TX14) (N := 19) hx hb hts iw_X14_bulk_RX14 hown hK hP 0 rfl rfl 2 (by decide) (hts (.fieldLink RX14 18 "HubcascadeModel" "pipes" "[LHubcascadeModel$Pipe;") (by decide +kernel)) (fun _ h9 => h9) rfl dX14_bulk_28 ?_
  refine lv_iload hx hb dX14_bulk_31 (lv_at hl 0 rfl) ?_
  refine my_aldN hx hb hK hP 1 9 rfl rfl (i := 5) (j := 5) (by decide) (by decide) (by decide) rfl dX14_bulk_33 ?_
  refine lv_ifnullN (tgt := 63) hx hb dX14_bulk_34 (by decide) ?_
  refine lv_iconst (v := 0) hx hb dX14_bulk_63 (by decide) ?_
  refine lv_istore (lv' := [(5, .int 0), (4, .int 5), (3, .int 5), (2, .int 0), (1, .int 0), (6, .int 0), (0, .ref (am 0))]) hx hb dX14_bulk_64 hl (by decide) rfl (fun ls hl => ?_)
  refine lv_iload hx hb dX14_bulk_66 (lv_at hl 0 rfl) ?_
  refine lv_if_eq (tgt := 80) hx hb dX14_bulk_68 (by decide) (fun _ => ?_) (fun c => absurd (by decide) c)
  refine lv_iconst (v := 0) hx hb dX14_bulk_80 (by decide) ?_
  refine lv_istore (lv' := [(6, .int 0), (5, .int 0), (4, .int 5), (3, .int 5), (2, .int 0), (1, .int 0), (0, .ref (am 0))]) hx hb dX14_bulk_81 hl (by decide) rfl (fun ls hl => ?_)
  refine lv_iload_n hx hb dX14_bulk_83 rfl (lv_at hl 5 rfl) ?_
  refine lv_iload hx hb dX14_bulk_84 (lv_at hl 0 rfl) ?_
  refine lv_iconst (v := 2) hx hb dX14_bulk_86 (by decide) ?_
  refine lv_icmp_ne (tgt := 97) hx hb dX14_bulk_87 (by decide) (fun _ => ?_) (fun c => absurd c (by decide))
  refine lv_iconst (v := 0) hx hb dX14_bulk_97 (by decide) ?_
  refine lv_ior hx hb dX14_bulk_98 ?_
  refine lv_topi (fun y ey => ?_)
  obtain rfl : y = 0 := ey.trans (by decide)
  refine lv_istore_n (lv' := [(1, .int 0), (6, .int 0), (5, .int 0), (4, .int 5), (3, .int 5), (2, .int 0), (0, .ref (am 0))]) hx hb dX14_bulk_99 rfl hl (by decide) rfl (fun ls hl => ?_)
  refine lv_iload_n hx hb dX14_bulk_100 rfl (lv_at hl 5 rfl) ?_
  refine lv_iload hx hb dX14_bulk_101 (lv_at hl 1 rfl) ?_
  refine lv_if_le (tgt := 110) hx hb dX14_bulk_103 (by decide) (fun _ => ?_) (fun c => absurd (by decide) c)
  refine lv_iconst (v := 0) hx hb dX14_bulk_110 (by decide) ?_
  refine lv_iadd hx hb dX14_bulk_111 ?_
  refine lv_topi (fun y ey => ?_)
  obtain rfl : y = 0 := ey.trans (by decide)
  refine lv_istore_n (lv' := [(2, .int 0), (1, .int 0), (6, .int 0), (5, .int 0), (4, .int 5), (3, .int 5), (0, .ref (am 0))]) hx hb dX14_bulk_112 rfl hl (by decide) rfl (fun ls hl => ?_)
  refine lv_aload_n hx hb dX14_bulk_113 rfl (lv_at hl 6 rfl) ?_
  refine lv_iload hx hb dX14_bulk_114 (lv_at hl 2 rfl) ?_
  refine lv_if_le (tgt := 124) hx hb dX14_bulk_116 (by decide) (fun _ => ?_) (fun c => absurd (by decide) c)
  refine lv_aload_n hx hb dX14_bulk_124 rfl (lv_at hl 6 rfl) ?_
  refine va_get (D := D) (ci := 19) (v := .int (-1)) (C := RX14) (T := TX14) (N := 19) hx hb hts iw_X14_bulk_RX14 hown hK hP 0 rfl rfl 10 (by decide) (hts (.fieldLink RX14 38 "HubcascadeModel" "lastBulk" "I") (by decide +kernel)) (fun _ h9 => h9) rfl dX14_bulk_125 ?_
  refine va_put (D := D) (ci := 19) (v := .int (-1)) (ty := .int) (C := RX14) (T := TX14) (N := 19) hx hb hts iw_X14_bulk_RX14 tyX14 tyX14_ok nmX14 hown hK hP hD hS 0 rfl rfl 10 (by decide) (hts (.fieldLink RX14 38 "HubcascadeModel" "lastBulk" "I") (by decide +kernel)) (fun _ h9 => h9) rfl (by decide +kernel) rfl rfl (Nat.le_of_ble_eq_true rfl) dX14_bulk_128 (fun H locs hP hD hS => ?_)
  have hP : va_P D vwCl ([(am 0, .inr (19, [.int 0, .ref (am 1), .ref (am 4), .ref (am 5), .ref (am 6), .ref (am 7), .ref (am 8), .int 0, .ref (am 9), .int 1, .int (-1), .int 100, .ref (am 10), .long 0, .int 0, .int 0, .int 0, .int 0, .long 0])), (am 4, .inl (cy 9, 12, .inr (.inr (.inr (.inr (fun _ => none))))))]) H := hP
  have hD : va_D A ([(am 0, .inr (19, [.int 0, .ref (am 1), .ref (am 4), .ref (am 5), .ref (am 6), .ref (am 7), .ref (am 8), .int 0, .ref (am 9), .int 1, .int (-1), .int 100, .ref (am 10), .long 0, .int 0, .int 0, .int 0, .int 0, .long 0])), (am 4, .inl (cy 9, 12, .inr (.inr (.inr (.inr (fun _ => none))))))]) := hD
  refine lv_iload hx hb dX14_bulk_131 (lv_at hl 2 rfl) ?_
  refine lv_if_le (tgt := 140) hx hb dX14_bulk_133 (by decide) (fun _ => ?_) (fun c => absurd (by decide) c)
  refine lv_iload_n hx hb dX14_bulk_140 rfl (lv_at hl 5 rfl) ?_
  refine lv_iconst (v := 1) hx hb dX14_bulk_141 (by decide) ?_
  refine lv_iadd hx hb dX14_bulk_142 ?_
  refine lv_topi (fun y ey => ?_)
  obtain rfl : y = 6 := ey.trans (by decide)
  refine lv_istore_n (lv' := [(3, .int 6), (2, .int 0), (1, .int 0), (6, .int 0), (5, .int 0), (4, .int 5), (0, .ref (am 0))]) hx hb dX14_bulk_143 rfl hl (by decide) rfl (fun ls hl => ?_)
  refine lv_goto (tgt := 12) hx hb dX14_bulk_144 (by decide) ?_
  refine lv_iload_n hx hb dX14_bulk_12 rfl (lv_at hl 0 rfl) ?_
  refine lv_bipush (v := 12) hx hb dX14_bulk_13 (by decide) ?_
  refine lv_icmp_ge (tgt := 147) hx hb dX14_bulk_15 (by decide) (fun c => absurd c (by decide)) (fun _ => ?_)
  refine lv_iload hx hb dX14_bulk_18 (lv_at hl 5 rfl) ?_
  refine lv_iconst (v := 1) hx hb dX14_bulk_20 (by decide) ?_
  refine lv_iadd hx hb dX14_bulk_21 ?_
  refine lv_topi (fun y ey => ?_)
  obtain rfl : y = 6 := ey.trans (by decide)
  refine lv_bipush (v := 12) hx hb dX14_bulk_22 (by decide) ?_
  refine lv_irem hx hb dX14_bulk_24 (by decide) ?_
  refine lv_topi (fun y ey => ?_)
  obtain rfl : y = 6 := ey.trans (by decide)
  refine lv_istore (lv' := [(4, .int 6), (3, .int 6), (2, .int 0), (1, .int 0), (6, .int 0), (5, .int 0), (0, .ref (am 0))]) hx hb dX14_bulk_25 hl (by decide) rfl (fun ls hl => ?_)
  refine lv_aload_n hx hb dX14_bulk_27 rfl (lv_at hl 6 rfl) ?_
  refine va_get (D := D) (ci := 19) (v := .ref (am 4)) (C := RX14) (T := TX14) (N := 19) hx hb hts iw_X14_bulk_RX14 hown hK hP 0 rfl rfl 2 (by decide) (hts (.fieldLink RX14 18 "HubcascadeModel" "pipes" "[LHubcascadeModel$Pipe;") (by decide +kernel)) (fun _ h9 => h9) rfl dX14_bulk_28 ?_
  refine lv_iload hx hb dX14_bulk_31 (lv_at hl 0 rfl) ?_
  refine my_aldN hx hb hK hP 1 9 rfl rfl (i := 6) (j := 6) (by decide) (by decide) (by decide) rfl dX14_bulk_33 ?_
  refine lv_ifnullN (tgt := 63) hx hb dX14_bulk_34 (by decide) ?_
  refine lv_iconst (v := 0) hx hb dX14_bulk_63 (by decide) ?_
  refine lv_istore (lv' := [(5, .int 0), (4, .int 6), (3, .int 6), (2, .int 0), (1, .int 0), (6, .int 0), (0, .ref (am 0))]) hx hb dX14_bulk_64 hl (by decide) rfl (fun ls hl => ?_)
  refine lv_iload hx hb dX14_bulk_66 (lv_at hl 0 rfl) ?_
  refine lv_if_eq (tgt := 80) hx hb dX14_bulk_68 (by decide) (fun _ => ?_) (fun c => absurd (by decide) c)
  refine lv_iconst (v := 0) hx hb dX14_bulk_80 (by decide) ?_
  refine lv_istore (lv' := [(6, .int 0), (5, .int 0), (4, .int 6), (3, .int 6), (2, .int 0), (1, .int 0), (0, .ref (am 0))]) hx hb dX14_bulk_81 hl (by decide) rfl (fun ls hl => ?_)
  refine lv_iload_n hx hb dX14_bulk_83 rfl (lv_at hl 5 rfl) ?_
  refine lv_iload hx hb dX14_bulk_84 (lv_at hl 0 rfl) ?_
  refine lv_iconst (v := 2) hx hb dX14_bulk_86 (by decide) ?_
  refine lv_icmp_ne (tgt := 97) hx hb dX14_bulk_87 (by decide) (fun _ => ?_) (fun c => absurd c (by decide))
  refine lv_iconst (v := 0) hx hb dX14_bulk_97 (by decide) ?_
  refine lv_ior hx hb dX14_bulk_98 ?_
  refine lv_topi (fun y ey => ?_)
  obtain rfl : y = 0 := ey.trans (by decide)
  refine lv_istore_n (lv' := [(1, .int 0), (6, .int 0), (5, .int 0), (4, .int 6), (3, .int 6), (2, .int 0), (0, .ref (am 0))]) hx hb dX14_bulk_99 rfl hl (by decide) rfl (fun ls hl => ?_)
  refine lv_iload_n hx hb dX14_bulk_100 rfl (lv_at hl 5 rfl) ?_
  refine lv_iload hx hb dX14_bulk_101 (lv_at hl 1 rfl) ?_
  refine lv_if_le (tgt := 110) hx hb dX14_bulk_103 (by decide) (fun _ => ?_) (fun c => absurd (by decide) c)
  refine lv_iconst (v := 0) hx hb dX14_bulk_110 (by decide) ?_
  refine lv_iadd hx hb dX14_bulk_111 ?_
  refine lv_topi (fun y ey => ?_)
  obtain rfl : y = 0 := ey.trans (by decide)
  refine lv_istore_n (lv' := [(2, .int 0), (1, .int 0), (6, .int 0), (5, .int 0), (4, .int 6), (3, .int 6), (0, .ref (am 0))]) hx hb dX14_bulk_112 rfl hl (by decide) rfl (fun ls hl => ?_)
  refine lv_aload_n hx hb dX14_bulk_113 rfl (lv_at hl 6 rfl) ?_
  refine lv_iload hx hb dX14_bulk_114 (lv_at hl 2 rfl) ?_
  refine lv_if_le (tgt := 124) hx hb dX14_bulk_116 (by decide) (fun _ => ?_) (fun c => absurd (by decide) c)
  refine lv_aload_n hx hb dX14_bulk_124 rfl (lv_at hl 6 rfl) ?_
  refine va_get (D := D) (ci := 19) (v := .int (-1)) (C := RX14) (T := TX14) (N := 19) hx hb hts iw_X14_bulk_RX14 hown hK hP 0 rfl rfl 10 (by decide) (hts (.fieldLink RX14 38 "HubcascadeModel" "lastBulk" "I") (by decide +kernel)) (fun _ h9 => h9) rfl dX14_bulk_125 ?_
  refine va_put (D := D) (ci := 19) (v := .int (-1)) (ty := .int) (C := RX14) (T := TX14) (N := 19) hx hb hts iw_X14_bulk_RX14 tyX14 tyX14_ok nmX14 hown hK hP hD hS 0 rfl rfl 10 (by decide) (hts (.fieldLink RX14 38 "HubcascadeModel" "lastBulk" "I") (by decide +kernel)) (fun _ h9 => h9) rfl (by decide +kernel) rfl rfl (Nat.le_of_ble_eq_true rfl) dX14_bulk_128 (fun H locs hP hD hS => ?_)
  have hP : va_P D vwCl ([(am 0, .inr (19, [.int 0, .ref (am 1), .ref (am 4), .ref (am 5), .ref (am 6), .ref (am 7), .ref (am 8), .int 0, .ref (am 9), .int 1, .int (-1), .int 100, .ref (am 10), .long 0, .int 0, .int 0, .int 0, .int 0, .long 0])), (am 4, .inl (cy 9, 12, .inr (.inr (.inr (.inr (fun _ => none))))))]) H := hP
  have hD : va_D A ([(am 0, .inr (19, [.int 0, .ref (am 1), .ref (am 4), .ref (am 5), .ref (am 6), .ref (am 7), .ref (am 8), .int 0, .ref (am 9), .int 1, .int (-1), .int 100, .ref (am 10), .long 0, .int 0, .int 0, .int 0, .int 0, .long 0])), (am 4, .inl (cy 9, 12, .inr (.inr (.inr (.inr (fun _ => none))))))]) := hD
  refine lv_iload hx hb dX14_bulk_131 (lv_at hl 2 rfl) ?_
  refine lv_if_le (tgt := 140) hx hb dX14_bulk_133 (by decide) (fun _ => ?_) (fun c => absurd (by decide) c)
  refine lv_iload_n hx hb dX14_bulk_140 rfl (lv_at hl 5 rfl) ?_
  refine lv_iconst (v := 1) hx hb dX14_bulk_141 (by decide) ?_
  refine lv_iadd hx hb dX14_bulk_142 ?_
  refine lv_topi (fun y ey => ?_)
  obtain rfl : y = 7 := ey.trans (by decide)
  refine lv_istore_n (lv' := [(3, .int 7), (2, .int 0), (1, .int 0), (6, .int 0), (5, .int 0), (4, .int 6), (0, .ref (am 0))]) hx hb dX14_bulk_143 rfl hl (by decide) rfl (fun ls hl => ?_)
  refine lv_goto (tgt := 12) hx hb dX14_bulk_144 (by decide) ?_
  refine lv_iload_n hx hb dX14_bulk_12 rfl (lv_at hl 0 rfl) ?_
  refine lv_bipush (v := 12) hx hb dX14_bulk_13 (by decide) ?_
  refine lv_icmp_ge (tgt := 147) hx hb dX14_bulk_15 (by decide) (fun c => absurd c (by decide)) (fun _ => ?_)
  refine lv_iload hx hb dX14_bulk_18 (lv_at hl 5 rfl) ?_
  refine lv_iconst (v := 1) hx hb dX14_bulk_20 (by decide) ?_
  refine lv_iadd hx hb dX14_bulk_21 ?_
  refine lv_topi (fun y ey => ?_)
  obtain rfl : y = 7 := ey.trans (by decide)
  refine lv_bipush (v := 12) hx hb dX14_bulk_22 (by decide) ?_
  refine lv_irem hx hb dX14_bulk_24 (by decide) ?_
  refine lv_topi (fun y ey => ?_)
  obtain rfl : y = 7 := ey.trans (by decide)
  refine lv_istore (lv' := [(4, .int 7), (3, .int 7), (2, .int 0), (1, .int 0), (6, .int 0), (5, .int 0), (0, .ref (am 0))]) hx hb dX14_bulk_25 hl (by decide) rfl (fun ls hl => ?_)
  refine lv_aload_n hx hb dX14_bulk_27 rfl (lv_at hl 6 rfl) ?_
  refine va_get (D := D) (ci := 19) (v := .ref (am 4)) (C := RX14) (T := TX14) (N := 19) hx hb hts iw_X14_bulk_RX14 hown hK hP 0 rfl rfl 2 (by decide) (hts (.fieldLink RX14 18 "HubcascadeModel" "pipes" "[LHubcascadeModel$Pipe;") (by decide +kernel)) (fun _ h9 => h9) rfl dX14_bulk_28 ?_
  refine lv_iload hx hb dX14_bulk_31 (lv_at hl 0 rfl) ?_
  refine my_aldN hx hb hK hP 1 9 rfl rfl (i := 7) (j := 7) (by decide) (by decide) (by decide) rfl dX14_bulk_33 ?_
  refine lv_ifnullN (tgt := 63) hx hb dX14_bulk_34 (by decide) ?_
  refine lv_iconst (v := 0) hx hb dX14_bulk_63 (by decide) ?_
  refine lv_istore (lv' := [(5, .int 0), (4, .int 7), (3, .int 7), (2, .int 0), (1, .int 0), (6, .int 0), (0, .ref (am 0))]) hx hb dX14_bulk_64 hl (by decide) rfl (fun ls hl => ?_)
  refine lv_iload hx hb dX14_bulk_66 (lv_at hl 0 rfl) ?_
  refine lv_if_eq (tgt := 80) hx hb dX14_bulk_68 (by decide) (fun _ => ?_) (fun c => absurd (by decide) c)
  refine lv_iconst (v := 0) hx hb dX14_bulk_80 (by decide) ?_
  refine lv_istore (lv' := [(6, .int 0), (5, .int 0), (4, .int 7), (3, .int 7), (2, .int 0), (1, .int 0), (0, .ref (am 0))]) hx hb dX14_bulk_81 hl (by decide) rfl (fun ls hl => ?_)
  refine lv_iload_n hx hb dX14_bulk_83 rfl (lv_at hl 5 rfl) ?_
  refine lv_iload hx hb dX14_bulk_84 (lv_at hl 0 rfl) ?_
  refine lv_iconst (v := 2) hx hb dX14_bulk_86 (by decide) ?_
  refine lv_icmp_ne (tgt := 97) hx hb dX14_bulk_87 (by decide) (fun _ => ?_) (fun c => absurd c (by decide))
  refine lv_iconst (v := 0) hx hb dX14_bulk_97 (by decide) ?_
  refine lv_ior hx hb dX14_bulk_98 ?_
  refine lv_topi (fun y ey => ?_)
  obtain rfl : y = 0 := ey.trans (by decide)
  refine lv_istore_n (lv' := [(1, .int 0), (6, .int 0), (5, .int 0), (4, .int 7), (3, .int 7), (2, .int 0), (0, .ref (am 0))]) hx hb dX14_bulk_99 rfl hl (by decide) rfl (fun ls hl => ?_)
  refine lv_iload_n hx hb dX14_bulk_100 rfl (lv_at hl 5 rfl) ?_
  refine lv_iload hx hb dX14_bulk_101 (lv_at hl 1 rfl) ?_
  refine lv_if_le (tgt := 110) hx hb dX14_bulk_103 (by decide) (fun _ => ?_) (fun c => absurd (by decide) c)
  refine lv_iconst (v := 0) hx hb dX14_bulk_110 (by decide) ?_
  refine lv_iadd hx hb dX14_bulk_111 ?_
  refine lv_topi (fun y ey => ?_)
  obtain rfl : y = 0 := ey.trans (by decide)
  refine lv_istore_n (lv' := [(2, .int 0), (1, .int 0), (6, .int 0), (5, .int 0), (4, .int 7), (3, .int 7), (0, .ref (am 0))]) hx hb dX14_bulk_112 rfl hl (by decide) rfl (fun ls hl => ?_)
  refine lv_aload_n hx hb dX14_bulk_113 rfl (lv_at hl 6 rfl) ?_
  refine lv_iload hx hb dX14_bulk_114 (lv_at hl 2 rfl) ?_
  refine lv_if_le (tgt := 124) hx hb dX14_bulk_116 (by decide) (fun _ => ?_) (fun c => absurd (by decide) c)
  refine lv_aload_n hx hb dX14_bulk_124 rfl (lv_at hl 6 rfl) ?_
  refine va_get (D := D) (ci := 19) (v := .int (-1)) (C := RX14) (T := TX14) (N := 19) hx hb hts iw_X14_bulk_RX14 hown hK hP 0 rfl rfl 10 (by decide) (hts (.fieldLink RX14 38 "HubcascadeModel" "lastBulk" "I") (by decide +kernel)) (fun _ h9 => h9) rfl dX14_bulk_125 ?_
  refine va_put (D := D) (ci := 19) (v := .int (-1)) (ty := .int) (C := RX14) (T := TX14) (N := 19) hx hb hts iw_X14_bulk_RX14 tyX14 tyX14_ok nmX14 hown hK hP hD hS 0 rfl rfl 10 (by decide) (hts (.fieldLink RX14 38 "HubcascadeModel" "lastBulk" "I") (by decide +kernel)) (fun _ h9 => h9) rfl (by decide +kernel) rfl rfl (Nat.le_of_ble_eq_true rfl) dX14_bulk_128 (fun H locs hP hD hS => ?_)
  have hP : va_P D vwCl ([(am 0, .inr (19, [.int 0, .ref (am 1), .ref (am 4), .ref (am 5), .ref (am 6), .ref (am 7), .ref (am 8), .int 0, .ref (am 9), .int 1, .int (-1), .int 100, .ref (am 10), .long 0, .int 0, .int 0, .int 0, .int 0, .long 0])), (am 4, .inl (cy 9, 12, .inr (.inr (.inr (.inr (fun _ => none))))))]) H := hP
  have hD : va_D A ([(am 0, .inr (19, [.int 0, .ref (am 1), .ref (am 4), .ref (am 5), .ref (am 6), .ref (am 7), .ref (am 8), .int 0, .ref (am 9), .int 1, .int (-1), .int 100, .ref (am 10), .long 0, .int 0, .int 0, .int 0, .int 0, .long 0])), (am 4, .inl (cy 9, 12, .inr (.inr (.inr (.inr (fun _ => none))))))]) := hD
  refine lv_iload hx hb dX14_bulk_131 (lv_at hl 2 rfl) ?_
  refine lv_if_le (tgt := 140) hx hb dX14_bulk_133 (by decide) (fun _ => ?_) (fun c => absurd (by decide) c)
  refine lv_iload_n hx hb dX14_bulk_140 rfl (lv_at hl 5 rfl) ?_
  refine lv_iconst (v := 1) hx hb dX14_bulk_141 (by decide) ?_
  refine lv_iadd hx hb dX14_bulk_142 ?_
  refine lv_topi (fun y ey => ?_)
  obtain rfl : y = 8 := ey.trans (by decide)
  refine lv_istore_n (lv' := [(3, .int 8), (2, .int 0), (1, .int 0), (6, .int 0), (5, .int 0), (4, .int 7), (0, .ref (am 0))]) hx hb dX14_bulk_143 rfl hl (by decide) rfl (fun ls hl => ?_)
  refine lv_goto (tgt := 12) hx hb dX14_bulk_144 (by decide) ?_
  refine lv_iload_n hx hb dX14_bulk_12 rfl (lv_at hl 0 rfl) ?_
  refine lv_bipush (v := 12) hx hb dX14_bulk_13 (by decide) ?_
  refine lv_icmp_ge (tgt := 147) hx hb dX14_bulk_15 (by decide) (fun c => absurd c (by decide)) (fun _ => ?_)
  refine lv_iload hx hb dX14_bulk_18 (lv_at hl 5 rfl) ?_
  refine lv_iconst (v := 1) hx hb dX14_bulk_20 (by decide) ?_
  refine lv_iadd hx hb dX14_bulk_21 ?_
  refine lv_topi (fun y ey => ?_)
  obtain rfl : y = 8 := ey.trans (by decide)
  refine lv_bipush (v := 12) hx hb dX14_bulk_22 (by decide) ?_
  refine lv_irem hx hb dX14_bulk_24 (by decide) ?_
  refine lv_topi (fun y ey => ?_)
  obtain rfl : y = 8 := ey.trans (by decide)
  refine lv_istore (lv' := [(4, .int 8), (3, .int 8), (2, .int 0), (1, .int 0), (6, .int 0), (5, .int 0), (0, .ref (am 0))]) hx hb dX14_bulk_25 hl (by decide) rfl (fun ls hl => ?_)
  refine lv_aload_n hx hb dX14_bulk_27 rfl (lv_at hl 6 rfl) ?_
  refine va_get (D := D) (ci := 19) (v := .ref (am 4)) (C := RX14) (T := TX14) (N := 19) hx hb hts iw_X14_bulk_RX14 hown hK hP 0 rfl rfl 2 (by decide) (hts (.fieldLink RX14 18 "HubcascadeModel" "pipes" "[LHubcascadeModel$Pipe;") (by decide +kernel)) (fun _ h9 => h9) rfl dX14_bulk_28 ?_
  refine lv_iload hx hb dX14_bulk_31 (lv_at hl 0 rfl) ?_
  refine my_aldN hx hb hK hP 1 9 rfl rfl (i := 8) (j := 8) (by decide) (by decide) (by decide) rfl dX14_bulk_33 ?_
  refine lv_ifnullN (tgt := 63) hx hb dX14_bulk_34 (by decide) ?_
  refine lv_iconst (v := 0) hx hb dX14_bulk_63 (by decide) ?_
  refine lv_istore (lv' := [(5, .int 0), (4, .int 8), (3, .int 8), (2, .int 0), (1, .int 0), (6, .int 0), (0, .ref (am 0))]) hx hb dX14_bulk_64 hl (by decide) rfl (fun ls hl => ?_)
  refine lv_iload hx hb dX14_bulk_66 (lv_at hl 0 rfl) ?_
  refine lv_if_eq (tgt := 80) hx hb dX14_bulk_68 (by decide) (fun _ => ?_) (fun c => absurd (by decide) c)
  refine lv_iconst (v := 0) hx hb dX14_bulk_80 (by decide) ?_
  refine lv_istore (lv' := [(6, .int 0), (5, .int 0), (4, .int 8), (3, .int 8), (2, .int 0), (1, .int 0), (0, .ref (am 0))]) hx hb dX14_bulk_81 hl (by decide) rfl (fun ls hl => ?_)
  refine lv_iload_n hx hb dX14_bulk_83 rfl (lv_at hl 5 rfl) ?_
  refine lv_iload hx hb dX14_bulk_84 (lv_at hl 0 rfl) ?_
  refine lv_iconst (v := 2) hx hb dX14_bulk_86 (by decide) ?_
  refine lv_icmp_ne (tgt := 97) hx hb dX14_bulk_87 (by decide) (fun _ => ?_) (fun c => absurd c (by decide))
  refine lv_iconst (v := 0) hx hb dX14_bulk_97 (by decide) ?_
  refine lv_ior hx hb dX14_bulk_98 ?_
  refine lv_topi (fun y ey => ?_)
  obtain rfl : y = 0 := ey.trans (by decide)
  refine lv_istore_n (lv' := [(1, .int 0), (6, .int 0), (5, .int 0), (4, .int 8), (3, .int 8), (2, .int 0), (0, .ref (am 0))]) hx hb dX14_bulk_99 rfl hl (by decide) rfl (fun ls hl => ?_)
  refine lv_iload_n hx hb dX14_bulk_100 rfl (lv_at hl 5 rfl) ?_
  refine lv_iload hx hb dX14_bulk_101 (lv_at hl 1 rfl) ?_
  refine lv_if_le (tgt := 110) hx hb dX14_bulk_103 (by decide) (fun _ => ?_) (fun c => absurd (by decide) c)
  refine lv_iconst (v := 0) hx hb dX14_bulk_110 (by decide) ?_
  refine lv_iadd hx hb dX14_bulk_111 ?_
  refine lv_topi (fun y ey => ?_)
  obtain rfl : y = 0 := ey.trans (by decide)
  refine lv_istore_n (lv' := [(2, .int 0), (1, .int 0), (6, .int 0), (5, .int 0), (4, .int 8), (3, .int 8), (0, .ref (am 0))]) hx hb dX14_bulk_112 rfl hl (by decide) rfl (fun ls hl => ?_)
  refine lv_aload_n hx hb dX14_bulk_113 rfl (lv_at hl 6 rfl) ?_
  refine lv_iload hx hb dX14_bulk_114 (lv_at hl 2 rfl) ?_
  refine lv_if_le (tgt := 124) hx hb dX14_bulk_116 (by decide) (fun _ => ?_) (fun c => absurd (by decide) c)
  refine lv_aload_n hx hb dX14_bulk_124 rfl (lv_at hl 6 rfl) ?_
  refine va_get (D := D) (ci := 19) (v := .int (-1)) (C := RX14) (T := TX14) (N := 19) hx hb hts iw_X14_bulk_RX14 hown hK hP 0 rfl rfl 10 (by decide) (hts (.fieldLink RX14 38 "HubcascadeModel" "lastBulk" "I") (by decide +kernel)) (fun _ h9 => h9) rfl dX14_bulk_125 ?_
  refine va_put (D := D) (ci := 19) (v := .int (-1)) (ty := .int) (C := RX14) (T := TX14) (N := 19) hx hb hts iw_X14_bulk_RX14 tyX14 tyX14_ok nmX14 hown hK hP hD hS 0 rfl rfl 10 (by decide) (hts (.fieldLink RX14 38 "HubcascadeModel" "lastBulk" "I") (by decide +kernel)) (fun _ h9 => h9) rfl (by decide +kernel) rfl rfl (Nat.le_of_ble_eq_true rfl) dX14_bulk_128 (fun H locs hP hD hS => ?_)
  have hP : va_P D vwCl ([(am 0, .inr (19, [.int 0, .ref (am 1), .ref (am 4), .ref (am 5), .ref (am 6), .ref (am 7), .ref (am 8), .int 0, .ref (am 9), .int 1, .int (-1), .int 100, .ref (am 10), .long 0, .int 0, .int 0, .int 0, .int 0, .long 0])), (am 4, .inl (cy 9, 12, .inr (.inr (.inr (.inr (fun _ => none))))))]) H := hP
  have hD : va_D A ([(am 0, .inr (19, [.int 0, .ref (am 1), .ref (am 4), .ref (am 5), .ref (am 6), .ref (am 7), .ref (am 8), .int 0, .ref (am 9), .int 1, .int (-1), .int 100, .ref (am 10), .long 0, .int 0, .int 0, .int 0, .int 0, .long 0])), (am 4, .inl (cy 9, 12, .inr (.inr (.inr (.inr (fun _ => none))))))]) := hD
  refine lv_iload hx hb dX14_bulk_131 (lv_at hl 2 rfl) ?_
  refine lv_if_le (tgt := 140) hx hb dX14_bulk_133 (by decide) (fun _ => ?_) (fun c => absurd (by decide) c)
  refine lv_iload_n hx hb dX14_bulk_140 rfl (lv_at hl 5 rfl) ?_
  refine lv_iconst (v := 1) hx hb dX14_bulk_141 (by decide) ?_
  refine lv_iadd hx hb dX14_bulk_142 ?_
  refine lv_topi (fun y ey => ?_)
  obtain rfl : y = 9 := ey.trans (by decide)
  refine lv_istore_n (lv' := [(3, .int 9), (2, .int 0), (1, .int 0), (6, .int 0), (5, .int 0), (4, .int 8), (0, .ref (am 0))]) hx hb dX14_bulk_143 rfl hl (by decide) rfl (fun ls hl => ?_)
  refine lv_goto (tgt := 12) hx hb dX14_bulk_144 (by decide) ?_
  refine lv_iload_n hx hb dX14_bulk_12 rfl (lv_at hl 0 rfl) ?_
  refine lv_bipush (v := 12) hx hb dX14_bulk_13 (by decide) ?_
  refine lv_icmp_ge (tgt := 147) hx hb dX14_bulk_15 (by decide) (fun c => absurd c (by decide)) (fun _ => ?_)
  refine lv_iload hx hb dX14_bulk_18 (lv_at hl 5 rfl) ?_
  refine lv_iconst (v := 1) hx hb dX14_bulk_20 (by decide) ?_
  refine lv_iadd hx hb dX14_bulk_21 ?_
  refine lv_topi (fun y ey => ?_)
  obtain rfl : y = 9 := ey.trans (by decide)
  refine lv_bipush (v := 12) hx hb dX14_bulk_22 (by decide) ?_
  refine lv_irem hx hb dX14_bulk_24 (by decide) ?_
  refine lv_topi (fun y ey => ?_)
  obtain rfl : y = 9 := ey.trans (by decide)
  refine lv_istore (lv' := [(4, .int 9), (3, .int 9), (2, .int 0), (1, .int 0), (6, .int 0), (5, .int 0), (0, .ref (am 0))]) hx hb dX14_bulk_25 hl (by decide) rfl (fun ls hl => ?_)
  refine lv_aload_n hx hb dX14_bulk_27 rfl (lv_at hl 6 rfl) ?_
  refine va_get (D := D) (ci := 19) (v := .ref (am 4)) (C := RX14) (T := TX14) (N := 19) hx hb hts iw_X14_bulk_RX14 hown hK hP 0 rfl rfl 2 (by decide) (hts (.fieldLink RX14 18 "HubcascadeModel" "pipes" "[LHubcascadeModel$Pipe;") (by decide +kernel)) (fun _ h9 => h9) rfl dX14_bulk_28 ?_
  refine lv_iload hx hb dX14_bulk_31 (lv_at hl 0 rfl) ?_
  refine my_aldN hx hb hK hP 1 9 rfl rfl (i := 9) (j := 9) (by decide) (by decide) (by decide) rfl dX14_bulk_33 ?_
  refine lv_ifnullN (tgt := 63) hx hb dX14_bulk_34 (by decide) ?_
  refine lv_iconst (v := 0) hx hb dX14_bulk_63 (by decide) ?_
  refine lv_istore (lv' := [(5, .int 0), (4, .int 9), (3, .int 9), (2, .int 0), (1, .int 0), (6, .int 0), (0, .ref (am 0))]) hx hb dX14_bulk_64 hl (by decide) rfl (fun ls hl => ?_)
  refine lv_iload hx hb dX14_bulk_66 (lv_at hl 0 rfl) ?_
  refine lv_if_eq (tgt := 80) hx hb dX14_bulk_68 (by decide) (fun _ => ?_) (fun c => absurd (by decide) c)
  refine lv_iconst (v := 0) hx hb dX14_bulk_80 (by decide) ?_
  refine lv_istore (lv' := [(6, .int 0), (5, .int 0), (4, .int 9), (3, .int 9), (2, .int 0), (1, .int 0), (0, .ref (am 0))]) hx hb dX14_bulk_81 hl (by decide) rfl (fun ls hl => ?_)
  refine lv_iload_n hx hb dX14_bulk_83 rfl (lv_at hl 5 rfl) ?_
  refine lv_iload hx hb dX14_bulk_84 (lv_at hl 0 rfl) ?_
  refine lv_iconst (v := 2) hx hb dX14_bulk_86 (by decide) ?_
  refine lv_icmp_ne (tgt := 97) hx hb dX14_bulk_87 (by decide) (fun _ => ?_) (fun c => absurd c (by decide))
  refine lv_iconst (v := 0) hx hb dX14_bulk_97 (by decide) ?_
  refine lv_ior hx hb dX14_bulk_98 ?_
  refine lv_topi (fun y ey => ?_)
  obtain rfl : y = 0 := ey.trans (by decide)
  refine lv_istore_n (lv' := [(1, .int 0), (6, .int 0), (5, .int 0), (4, .int 9), (3, .int 9), (2, .int 0), (0, .ref (am 0))]) hx hb dX14_bulk_99 rfl hl (by decide) rfl (fun ls hl => ?_)
  refine lv_iload_n hx hb dX14_bulk_100 rfl (lv_at hl 5 rfl) ?_
  refine lv_iload hx hb dX14_bulk_101 (lv_at hl 1 rfl) ?_
  refine lv_if_le (tgt := 110) hx hb dX14_bulk_103 (by decide) (fun _ => ?_) (fun c => absurd (by decide) c)
  refine lv_iconst (v := 0) hx hb dX14_bulk_110 (by decide) ?_
  refine lv_iadd hx hb dX14_bulk_111 ?_
  refine lv_topi (fun y ey => ?_)
  obtain rfl : y = 0 := ey.trans (by decide)
  refine lv_istore_n (lv' := [(2, .int 0), (1, .int 0), (6, .int 0), (5, .int 0), (4, .int 9), (3, .int 9), (0, .ref (am 0))]) hx hb dX14_bulk_112 rfl hl (by decide) rfl (fun ls hl => ?_)
  refine lv_aload_n hx hb dX14_bulk_113 rfl (lv_at hl 6 rfl) ?_
  refine lv_iload hx hb dX14_bulk_114 (lv_at hl 2 rfl) ?_
  refine lv_if_le (tgt := 124) hx hb dX14_bulk_116 (by decide) (fun _ => ?_) (fun c => absurd (by decide) c)
  refine lv_aload_n hx hb dX14_bulk_124 rfl (lv_at hl 6 rfl) ?_
  refine va_get (D := D) (ci := 19) (v := .int (-1)) (C := RX14) (T := TX14) (N := 19) hx hb hts iw_X14_bulk_RX14 hown hK hP 0 rfl rfl 10 (by decide) (hts (.fieldLink RX14 38 "HubcascadeModel" "lastBulk" "I") (by decide +kernel)) (fun _ h9 => h9) rfl dX14_bulk_125 ?_
  refine va_put (D := D) (ci := 19) (v := .int (-1)) (ty := .int) (C := RX14) (T := TX14) (N := 19) hx hb hts iw_X14_bulk_RX14 tyX14 tyX14_ok nmX14 hown hK hP hD hS 0 rfl rfl 10 (by decide) (hts (.fieldLink RX14 38 "HubcascadeModel" "lastBulk" "I") (by decide +kernel)) (fun _ h9 => h9) rfl (by decide +kernel) rfl rfl (Nat.le_of_ble_eq_true rfl) dX14_bulk_128 (fun H locs hP hD hS => ?_)
  have hP : va_P D vwCl ([(am 0, .inr (19, [.int 0, .ref (am 1), .ref (am 4), .ref (am 5), .ref (am 6), .ref (am 7), .ref (am 8), .int 0, .ref (am 9), .int 1, .int (-1), .int 100, .ref (am 10), .long 0, .int 0, .int 0, .int 0, .int 0, .long 0])), (am 4, .inl (cy 9, 12, .inr (.inr (.inr (.inr (fun _ => none))))))]) H := hP
  have hD : va_D A ([(am 0, .inr (19, [.int 0, .ref (am 1), .ref (am 4), .ref (am 5), .ref (am 6), .ref (am 7), .ref (am 8), .int 0, .ref (am 9), .int 1, .int (-1), .int 100, .ref (am 10), .long 0, .int 0, .int 0, .int 0, .int 0, .long 0])), (am 4, .inl (cy 9, 12, .inr (.inr (.inr (.inr (fun _ => none))))))]) := hD
  refine lv_iload hx hb dX14_bulk_131 (lv_at hl 2 rfl) ?_
  refine lv_if_le (tgt := 140) hx hb dX14_bulk_133 (by decide) (fun _ => ?_) (fun c => absurd (by decide) c)
  refine lv_iload_n hx hb dX14_bulk_140 rfl (lv_at hl 5 rfl) ?_
  refine lv_iconst (v := 1) hx hb dX14_bulk_141 (by decide) ?_
  refine lv_iadd hx hb dX14_bulk_142 ?_
  refine lv_topi (fun y ey => ?_)
  obtain rfl : y = 10 := ey.trans (by decide)
  refine lv_istore_n (lv' := [(3, .int 10), (2, .int 0), (1, .int 0), (6, .int 0), (5, .int 0), (4, .int 9), (0, .ref (am 0))]) hx hb dX14_bulk_143 rfl hl (by decide) rfl (fun ls hl => ?_)
  refine lv_goto (tgt := 12) hx hb dX14_bulk_144 (by decide) ?_
  refine lv_iload_n hx hb dX14_bulk_12 rfl (lv_at hl 0 rfl) ?_
  refine lv_bipush (v := 12) hx hb dX14_bulk_13 (by decide) ?_
  refine lv_icmp_ge (tgt := 147) hx hb dX14_bulk_15 (by decide) (fun c => absurd c (by decide)) (fun _ => ?_)
  refine lv_iload hx hb dX14_bulk_18 (lv_at hl 5 rfl) ?_
  refine lv_iconst (v := 1) hx hb dX14_bulk_20 (by decide) ?_
  refine lv_iadd hx hb dX14_bulk_21 ?_
  refine lv_topi (fun y ey => ?_)
  obtain rfl : y = 10 := ey.trans (by decide)
  refine lv_bipush (v := 12) hx hb dX14_bulk_22 (by decide) ?_
  refine lv_irem hx hb dX14_bulk_24 (by decide) ?_
  refine lv_topi (fun y ey => ?_)
  obtain rfl : y = 10 := ey.trans (by decide)
  refine lv_istore (lv' := [(4, .int 10), (3, .int 10), (2, .int 0), (1, .int 0), (6, .int 0), (5, .int 0), (0, .ref (am 0))]) hx hb dX14_bulk_25 hl (by decide) rfl (fun ls hl => ?_)
  refine lv_aload_n hx hb dX14_bulk_27 rfl (lv_at hl 6 rfl) ?_
  refine va_get (D := D) (ci := 19) (v := .ref (am 4)) (C := RX14) (T := TX14) (N := 19) hx hb hts iw_X14_bulk_RX14 hown hK hP 0 rfl rfl 2 (by decide) (hts (.fieldLink RX14 18 "HubcascadeModel" "pipes" "[LHubcascadeModel$Pipe;") (by decide +kernel)) (fun _ h9 => h9) rfl dX14_bulk_28 ?_
  refine lv_iload hx hb dX14_bulk_31 (lv_at hl 0 rfl) ?_
  refine my_aldN hx hb hK hP 1 9 rfl rfl (i := 10) (j := 10) (by decide) (by decide) (by decide) rfl dX14_bulk_33 ?_
  refine lv_ifnullN (tgt := 63) hx hb dX14_bulk_34 (by decide) ?_
  refine lv_iconst (v := 0) hx hb dX14_bulk_63 (by decide) ?_
  refine lv_istore (lv' := [(5, .int 0), (4, .int 10), (3, .int 10), (2, .int 0), (1, .int 0), (6, .int 0), (0, .ref (am 0))]) hx hb dX14_bulk_64 hl (by decide) rfl (fun ls hl => ?_)
  refine lv_iload hx hb dX14_bulk_66 (lv_at hl 0 rfl) ?_
  refine lv_if_eq (tgt := 80) hx hb dX14_bulk_68 (by decide) (fun _ => ?_) (fun c => absurd (by decide) c)
  refine lv_iconst (v := 0) hx hb dX14_bulk_80 (by decide) ?_
  refine lv_istore (lv' := [(6, .int 0), (5, .int 0), (4, .int 10), (3, .int 10), (2, .int 0), (1, .int 0), (0, .ref (am 0))]) hx hb dX14_bulk_81 hl (by decide) rfl (fun ls hl => ?_)
  refine lv_iload_n hx hb dX14_bulk_83 rfl (lv_at hl 5 rfl) ?_
  refine lv_iload hx hb dX14_bulk_84 (lv_at hl 0 rfl) ?_
  refine lv_iconst (v := 2) hx hb dX14_bulk_86 (by decide) ?_
  refine lv_icmp_ne (tgt := 97) hx hb dX14_bulk_87 (by decide) (fun _ => ?_) (fun c => absurd c (by decide))
  refine lv_iconst (v := 0) hx hb dX14_bulk_97 (by decide) ?_
  refine lv_ior hx hb dX14_bulk_98 ?_
  refine lv_topi (fun y ey => ?_)
  obtain rfl : y = 0 := ey.trans (by decide)
  refine lv_istore_n (lv' := [(1, .int 0), (6, .int 0), (5, .int 0), (4, .int 10), (3, .int 10), (2, .int 0), (0, .ref (am 0))]) hx hb dX14_bulk_99 rfl hl (by decide) rfl (fun ls hl => ?_)
  refine lv_iload_n hx hb dX14_bulk_100 rfl (lv_at hl 5 rfl) ?_
  refine lv_iload hx hb dX14_bulk_101 (lv_at hl 1 rfl) ?_
  refine lv_if_le (tgt := 110) hx hb dX14_bulk_103 (by decide) (fun _ => ?_) (fun c => absurd (by decide) c)
  refine lv_iconst (v := 0) hx hb dX14_bulk_110 (by decide) ?_
  refine lv_iadd hx hb dX14_bulk_111 ?_
  refine lv_topi (fun y ey => ?_)
  obtain rfl : y = 0 := ey.trans (by decide)
  refine lv_istore_n (lv' := [(2, .int 0), (1, .int 0), (6, .int 0), (5, .int 0), (4, .int 10), (3, .int 10), (0, .ref (am 0))]) hx hb dX14_bulk_112 rfl hl (by decide) rfl (fun ls hl => ?_)
  refine lv_aload_n hx hb dX14_bulk_113 rfl (lv_at hl 6 rfl) ?_
  refine lv_iload hx hb dX14_bulk_114 (lv_at hl 2 rfl) ?_
  refine lv_if_le (tgt := 124) hx hb dX14_bulk_116 (by decide) (fun _ => ?_) (fun c => absurd (by decide) c)
  refine lv_aload_n hx hb dX14_bulk_124 rfl (lv_at hl 6 rfl) ?_
  refine va_get (D := D) (ci := 19) (v := .int (-1)) (C := RX14) (T := TX14) (N := 19) hx hb hts iw_X14_bulk_RX14 hown hK hP 0 rfl rfl 10 (by decide) (hts (.fieldLink RX14 38 "HubcascadeModel" "lastBulk" "I") (by decide +kernel)) (fun _ h9 => h9) rfl dX14_bulk_125 ?_
  refine va_put (D := D) (ci := 19) (v := .int (-1)) (ty := .int) (C := RX14) (T := TX14) (N := 19) hx hb hts iw_X14_bulk_RX14 tyX14 tyX14_ok nmX14 hown hK hP hD hS 0 rfl rfl 10 (by decide) (hts (.fieldLink RX14 38 "HubcascadeModel" "lastBulk" "I") (by decide +kernel)) (fun _ h9 => h9) rfl (by decide +kernel) rfl rfl (Nat.le_of_ble_eq_true rfl) dX14_bulk_128 (fun H locs hP hD hS => ?_)
  have hP : va_P D vwCl ([(am 0, .inr (19, [.int 0, .ref (am 1), .ref (am 4), .ref (am 5), .ref (am 6), .ref (am 7), .ref (am 8), .int 0, .ref (am 9), .int 1, .int (-1), .int 100, .ref (am 10), .long 0, .int 0, .int 0, .int 0, .int 0, .long 0])), (am 4, .inl (cy 9, 12, .inr (.inr (.inr (.inr (fun _ => none))))))]) H := hP
  have hD : va_D A ([(am 0, .inr (19, [.int 0, .ref (am 1), .ref (am 4), .ref (am 5), .ref (am 6), .ref (am 7), .ref (am 8), .int 0, .ref (am 9), .int 1, .int (-1), .int 100, .ref (am 10), .long 0, .int 0, .int 0, .int 0, .int 0, .long 0])), (am 4, .inl (cy 9, 12, .inr (.inr (.inr (.inr (fun _ => none))))))]) := hD
  refine lv_iload hx hb dX14_bulk_131 (lv_at hl 2 rfl) ?_
  refine lv_if_le (tgt := 140) hx hb dX14_bulk_133 (by decide) (fun _ => ?_) (fun c => absurd (by decide) c)
  refine lv_iload_n hx hb dX14_bulk_140 rfl (lv_at hl 5 rfl) ?_
  refine lv_iconst (v := 1) hx hb dX14_bulk_141 (by decide) ?_
  refine lv_iadd hx hb dX14_bulk_142 ?_
  refine lv_topi (fun y ey => ?_)
  obtain rfl : y = 11 := ey.trans (by decide)
  refine lv_istore_n (lv' := [(3, .int 11), (2, .int 0), (1, .int 0), (6, .int 0), (5, .int 0), (4, .int 10), (0, .ref (am 0))]) hx hb dX14_bulk_143 rfl hl (by decide) rfl (fun ls hl => ?_)
  refine lv_goto (tgt := 12) hx hb dX14_bulk_144 (by decide) ?_
  refine lv_iload_n hx hb dX14_bulk_12 rfl (lv_at hl 0 rfl) ?_
  refine lv_bipush (v := 12) hx hb dX14_bulk_13 (by decide) ?_
  refine lv_icmp_ge (tgt := 147) hx hb dX14_bulk_15 (by decide) (fun c => absurd c (by decide)) (fun _ => ?_)
  refine lv_iload hx hb dX14_bulk_18 (lv_at hl 5 rfl) ?_
  refine lv_iconst (v := 1) hx hb dX14_bulk_20 (by decide) ?_
  refine lv_iadd hx hb dX14_bulk_21 ?_
  refine lv_topi (fun y ey => ?_)
  obtain rfl : y = 11 := ey.trans (by decide)
  refine lv_bipush (v := 12) hx hb dX14_bulk_22 (by decide) ?_
  refine lv_irem hx hb dX14_bulk_24 (by decide) ?_
  refine lv_topi (fun y ey => ?_)
  obtain rfl : y = 11 := ey.trans (by decide)
  refine lv_istore (lv' := [(4, .int 11), (3, .int 11), (2, .int 0), (1, .int 0), (6, .int 0), (5, .int 0), (0, .ref (am 0))]) hx hb dX14_bulk_25 hl (by decide) rfl (fun ls hl => ?_)
  refine lv_aload_n hx hb dX14_bulk_27 rfl (lv_at hl 6 rfl) ?_
  refine va_get (D := D) (ci := 19) (v := .ref (am 4)) (C := RX14) (T := TX14) (N := 19) hx hb hts iw_X14_bulk_RX14 hown hK hP 0 rfl rfl 2 (by decide) (hts (.fieldLink RX14 18 "HubcascadeModel" "pipes" "[LHubcascadeModel$Pipe;") (by decide +kernel)) (fun _ h9 => h9) rfl dX14_bulk_28 ?_
  refine lv_iload hx hb dX14_bulk_31 (lv_at hl 0 rfl) ?_
  refine my_aldN hx hb hK hP 1 9 rfl rfl (i := 11) (j := 11) (by decide) (by decide) (by decide) rfl dX14_bulk_33 ?_
  refine lv_ifnullN (tgt := 63) hx hb dX14_bulk_34 (by decide) ?_
  refine lv_iconst (v := 0) hx hb dX14_bulk_63 (by decide) ?_
  refine lv_istore (lv' := [(5, .int 0), (4, .int 11), (3, .int 11), (2, .int 0), (1, .int 0), (6, .int 0), (0, .ref (am 0))]) hx hb dX14_bulk_64 hl (by decide) rfl (fun ls hl => ?_)
  refine lv_iload hx hb dX14_bulk_66 (lv_at hl 0 rfl) ?_
  refine lv_if_eq (tgt := 80) hx hb dX14_bulk_68 (by decide) (fun _ => ?_) (fun c => absurd (by decide) c)
  refine lv_iconst (v := 0) hx hb dX14_bulk_80 (by decide) ?_
  refine lv_istore (lv' := [(6, .int 0), (5, .int 0), (4, .int 11), (3, .int 11), (2, .int 0), (1, .int 0), (0, .ref (am 0))]) hx hb dX14_bulk_81 hl (by decide) rfl (fun ls hl => ?_)
  refine lv_iload_n hx hb dX14_bulk_83 rfl (lv_at hl 5 rfl) ?_
  refine lv_iload hx hb dX14_bulk_84 (lv_at hl 0 rfl) ?_
  refine lv_iconst (v := 2) hx hb dX14_bulk_86 (by decide) ?_
  refine lv_icmp_ne (tgt := 97) hx hb dX14_bulk_87 (by decide) (fun _ => ?_) (fun c => absurd c (by decide))
  refine lv_iconst (v := 0) hx hb dX14_bulk_97 (by decide) ?_
  refine lv_ior hx hb dX14_bulk_98 ?_
  refine lv_topi (fun y ey => ?_)
  obtain rfl : y = 0 := ey.trans (by decide)
  refine lv_istore_n (lv' := [(1, .int 0), (6, .int 0), (5, .int 0), (4, .int 11), (3, .int 11), (2, .int 0), (0, .ref (am 0))]) hx hb dX14_bulk_99 rfl hl (by decide) rfl (fun ls hl => ?_)
  refine lv_iload_n hx hb dX14_bulk_100 rfl (lv_at hl 5 rfl) ?_
  refine lv_iload hx hb dX14_bulk_101 (lv_at hl 1 rfl) ?_
  refine lv_if_le (tgt := 110) hx hb dX14_bulk_103 (by decide) (fun _ => ?_) (fun c => absurd (by decide) c)
  refine lv_iconst (v := 0) hx hb dX14_bulk_110 (by decide) ?_
  refine lv_iadd hx hb dX14_bulk_111 ?_
  refine lv_topi (fun y ey => ?_)
  obtain rfl : y = 0 := ey.trans (by decide)
  refine lv_istore_n (lv' := [(2, .int 0), (1, .int 0), (6, .int 0), (5, .int 0), (4, .int 11), (3, .int 11), (0, .ref (am 0))]) hx hb dX14_bulk_112 rfl hl (by decide) rfl (fun ls hl => ?_)
  refine lv_aload_n hx hb dX14_bulk_113 rfl (lv_at hl 6 rfl) ?_
  refine lv_iload hx hb dX14_bulk_114 (lv_at hl 2 rfl) ?_
  refine lv_if_le (tgt := 124) hx hb dX14_bulk_116 (by decide) (fun _ => ?_) (fun c => absurd (by decide) c)
  refine lv_aload_n hx hb dX14_bulk_124 rfl (lv_at hl 6 rfl) ?_
  refine va_get (D := D) (ci := 19) (v := .int (-1)) (C := RX14) (T := TX14) (N := 19) hx hb hts iw_X14_bulk_RX14 hown hK hP 0 rfl rfl 10 (by decide) (hts (.fieldLink RX14 38 "HubcascadeModel" "lastBulk" "I") (by decide +kernel)) (fun _ h9 => h9) rfl dX14_bulk_125 ?_
  refine va_put (D := D) (ci := 19) (v := .int (-1)) (ty := .int) (C := RX14) (T := TX14) (N := 19) hx hb hts iw_X14_bulk_RX14 tyX14 tyX14_ok nmX14 hown hK hP hD hS 0 rfl rfl 10 (by decide) (hts (.fieldLink RX14 38 "HubcascadeModel" "lastBulk" "I") (by decide +kernel)) (fun _ h9 => h9) rfl (by decide +kernel) rfl rfl (Nat.le_of_ble_eq_true rfl) dX14_bulk_128 (fun H locs hP hD hS => ?_)
  have hP : va_P D vwCl ([(am 0, .inr (19, [.int 0, .ref (am 1), .ref (am 4), .ref (am 5), .ref (am 6), .ref (am 7), .ref (am 8), .int 0, .ref (am 9), .int 1, .int (-1), .int 100, .ref (am 10), .long 0, .int 0, .int 0, .int 0, .int 0, .long 0])), (am 4, .inl (cy 9, 12, .inr (.inr (.inr (.inr (fun _ => none))))))]) H := hP
  have hD : va_D A ([(am 0, .inr (19, [.int 0, .ref (am 1), .ref (am 4), .ref (am 5), .ref (am 6), .ref (am 7), .ref (am 8), .int 0, .ref (am 9), .int 1, .int (-1), .int 100, .ref (am 10), .long 0, .int 0, .int 0, .int 0, .int 0, .long 0])), (am 4, .inl (cy 9, 12, .inr (.inr (.inr (.inr (fun _ => none))))))]) := hD
  refine lv_iload hx hb dX14_bulk_131 (lv_at hl 2 rfl) ?_
  refine lv_if_le (tgt := 140) hx hb dX14_bulk_133 (by decide) (fun _ => ?_) (fun c => absurd (by decide) c)
  refine lv_iload_n hx hb dX14_bulk_140 rfl (lv_at hl 5 rfl) ?_
  refine lv_iconst (v := 1) hx hb dX14_bulk_141 (by decide) ?_
  refine lv_iadd hx hb dX14_bulk_142 ?_
  refine lv_topi (fun y ey => ?_)
  obtain rfl : y = 12 := ey.trans (by decide)
  refine lv_istore_n (lv' := [(3, .int 12), (2, .int 0), (1, .int 0), (6, .int 0), (5, .int 0), (4, .int 11), (0, .ref (am 0))]) hx hb dX14_bulk_143 rfl hl (by decide) rfl (fun ls hl => ?_)
  refine lv_goto (tgt := 12) hx hb dX14_bulk_144 (by decide) ?_
  refine lv_iload_n hx hb dX14_bulk_12 rfl (lv_at hl 0 rfl) ?_
  refine lv_bipush (v := 12) hx hb dX14_bulk_13 (by decide) ?_
  refine lv_icmp_ge (tgt := 147) hx hb dX14_bulk_15 (by decide) (fun _ => ?_) (fun c => absurd (by decide) c)
  refine lv_iload_n hx hb dX14_bulk_147 rfl (lv_at hl 1 rfl) ?_
  refine W.widen (k := 0) (n := 0) (Nat.le_of_ble_eq_true rfl) (Nat.le_of_ble_eq_true rfl) ?_
  have hP9 := hP.sub (ws' := [(am 0, .inr (19, [.int 0, .ref (am 1), .ref (am 4), .ref (am 5), .ref (am 6), .ref (am 7), .ref (am 8), .int 0, .ref (am 9), .int 1, .int (-1), .int 100, .ref (am 10), .long 0, .int 0, .int 0, .int 0, .int 0, .long 0])), (am 4, .inl (cy 9, 12, .inr (.inr (.inr (.inr (fun _ => none))))))]) [0, 1] rfl
  have hD9 := hD.sub (ws' := [(am 0, .inr (19, [.int 0, .ref (am 1), .ref (am 4), .ref (am 5), .ref (am 6), .ref (am 7), .ref (am 8), .int 0, .ref (am 9), .int 1, .int (-1), .int 100, .ref (am 10), .long 0, .int 0, .int 0, .int 0, .int 0, .long 0])), (am 4, .inl (cy 9, 12, .inr (.inr (.inr (.inr (fun _ => none))))))]) [0, 1] (by decide) rfl
  exact W.iret hx hb hr (fun t ht hW => ⟨rfl, ⟨by rw [ht]; exact hP9, hD9⟩, hS.F ht⟩) hS.2.2 dX14_bulk_148

theorem iw_X14_frame_RX14 : ∀ w ∈ u_ws RX14 TX14 19, w ∈ wsFR := by decide +kernel
set_option maxRecDepth 100000 in
set_option maxHeartbeats 4000000 in
theorem a_frame (l : Launch) (D : va_G) (cy : Nat → ClassId) {ca : Nat} {ia : Nat → Nat} {am : Nat → Nat} {eda : Nat} {th : Int32} (sz : Nat) : MJ l D cy eda ca ia (WM cy am eda th) sz yX14_frame wsFR 1 0 0 26 [.ref (am 0)] (some (.int 0)) (fun H => va_P D vwCl ([(am 0, .inr (19, [.int 0, .ref (am 1), .ref (am 4), .ref (am 5), .ref (am 6), .ref (am 7), .ref (am 8), .int 0, .ref (am 9), .int 1, .int (-1), .int 100, .ref (am 10), .long 0, .int 0, .int 0, .int 0, .int 0, .long 0]))]) H ∧ va_D (va_A (WM cy am eda th) sz) ([(am 0, .inr (19, [.int 0, .ref (am 1), .ref (am 4), .ref (am 5), .ref (am 6), .ref (am 7), .ref (am 8), .int 0, .ref (am 9), .int 1, .int (-1), .int 100, .ref (am 10), .long 0, .int 0, .int 0, .int 0, .int 0, .long 0]))])) := by
  refine ro_ofW (cc := cX14_frame) (maxL := 5) (ret := (some .int)) (lv := [(0, .ref (am 0))]) (by decide) rfl (Nat.le_of_ble_eq_true rfl) rfl ?_
  intro p e s m below meth c ls hx hb hr hml hown hlocks hname hts hv hl
  have hown : s.vm.findClass RX14 = some m.cls := hown
  obtain ⟨⟨⟨hsz, hP, hD0⟩, hK, hN⟩, hJS⟩ := hv
  subst hsz
  have hD := hD0.self (sz := s.heap.size)
  generalize hAe : va_A (WM cy am eda th) s.heap.size = A at hD hJS ⊢
  have hA : ∀ q : Nat, s.heap.size ≤ q → A q := fun q h => by rw [← hAe]; exact Or.inr h
  have hS : va_S A s.heap s.heap [] := va_S.rf
  refine lv_aload_n hx hb dX14_frame_0 rfl (lv_at hl 0 rfl) ?_
  refine lv_iconst (v := 0) hx hb dX14_frame_1 (by decide) ?_
  refine va_put (D := D) (ci := 19) (v := .int 0) (ty := .int) (C := RX14) (T := TX14) (N := 19) hx hb hts iw_X14_frame_RX14 tyX14 tyX14_ok nmX14 hown hK hP hD hS 0 rfl rfl 0 (by decide) (hts (.fieldLink RX14 61 "HubcascadeModel" "thrown" "I") (by decide +kernel)) (fun _ h9 => h9) rfl (by decide +kernel) rfl rfl (Nat.le_of_ble_eq_true rfl) dX14_frame_2 (fun H locs hP hD hS => ?_)
  have hP : va_P D vwCl (WM cy am eda 0) H := hP
  have hD : va_D A (WM cy am eda 0) := hD
  refine lv_aload_n hx hb dX14_frame_5 rfl (lv_at hl 0 rfl) ?_
  refine lv_dup hx hb dX14_frame_6 rfl ?_
  refine va_get (D := D) (ci := 19) (v := .int 0) (C := RX14) (T := TX14) (N := 19) hx hb hts iw_X14_frame_RX14 hown hK hP 0 rfl rfl 9 (by decide) (hts (.fieldLink RX14 205 "HubcascadeModel" "frame" "I") (by decide +kernel)) (fun _ h9 => h9) rfl dX14_frame_7 ?_
  refine lv_iconst (v := 1) hx hb dX14_frame_10 (by decide) ?_
  refine lv_iadd hx hb dX14_frame_11 ?_
  refine lv_topi (fun y ey => ?_)
  obtain rfl : y = 1 := ey.trans (by decide)
  refine va_put (D := D) (ci := 19) (v := .int 1) (ty := .int) (C := RX14) (T := TX14) (N := 19) hx hb hts iw_X14_frame_RX14 tyX14 tyX14_ok nmX14 hown hK hP hD hS 0 rfl rfl 9 (by decide) (hts (.fieldLink RX14 205 "HubcascadeModel" "frame" "I") (by decide +kernel)) (fun _ h9 => h9) rfl (by decide +kernel) rfl rfl (Nat.le_of_ble_eq_true rfl) dX14_frame_12 (fun H locs hP hD hS => ?_)
  have hP : va_P D vwCl ([(am 0, .inr (19, [.int 0, .ref (am 1), .ref (am 4), .ref (am 5), .ref (am 6), .ref (am 7), .ref (am 8), .int 0, .ref (am 9), .int 1, .int (-1), .int 100, .ref (am 10), .long 0, .int 0, .int 0, .int 0, .int 0, .long 0])), (am 1, .inr (4, [.int 1, .ref (am 2), .int 1])), (am 2, .inl (cy 10, 10, .inr (.inr (.inr (.inr (va_up (fun _ => none) 0 (some (am 3)))))))), (am 3, .inr (15, [.int 104, .int 4, .int 0, .int 1, .int 0, .int 0, .int 99, .int (-1), .int 0, .int 0, .int (-1), .int 0, .int 0, .ref (am 11), .ref (am 12), .ref (am 13)])), (am 4, .inl (cy 9, 12, .inr (.inr (.inr (.inr (fun _ => none)))))), (am 5, .inr (4, [.int 0, .ref eda, .int 0])), (am 6, .inr (4, [.int 0, .ref eda, .int 0])), (am 7, .inr (4, [.int 0, .ref eda, .int 0])), (am 8, .inl (cy 0, 0, .inl (fun _ => 0))), (am 9, .inr (4, [.int 0, .ref eda, .int 0])), (am 10, .inl (cy 0, 16, .inl (fun _ => 0))), (am 11, .inl (cy 8, 4, .inr (.inr (.inr (.inr (fun _ => none)))))), (am 12, .inl (cy 1, 4, .inl (fun _ => 0))), (am 13, .inl (cy 0, 4, .inl (fun _ => 0)))]) H := hP
  have hD : va_D A ([(am 0, .inr (19, [.int 0, .ref (am 1), .ref (am 4), .ref (am 5), .ref (am 6), .ref (am 7), .ref (am 8), .int 0, .ref (am 9), .int 1, .int (-1), .int 100, .ref (am 10), .long 0, .int 0, .int 0, .int 0, .int 0, .long 0])), (am 1, .inr (4, [.int 1, .ref (am 2), .int 1])), (am 2, .inl (cy 10, 10, .inr (.inr (.inr (.inr (va_up (fun _ => none) 0 (some (am 3)))))))), (am 3, .inr (15, [.int 104, .int 4, .int 0, .int 1, .int 0, .int 0, .int 99, .int (-1), .int 0, .int 0, .int (-1), .int 0, .int 0, .ref (am 11), .ref (am 12), .ref (am 13)])), (am 4, .inl (cy 9, 12, .inr (.inr (.inr (.inr (fun _ => none)))))), (am 5, .inr (4, [.int 0, .ref eda, .int 0])), (am 6, .inr (4, [.int 0, .ref eda, .int 0])), (am 7, .inr (4, [.int 0, .ref eda, .int 0])), (am 8, .inl (cy 0, 0, .inl (fun _ => 0))), (am 9, .inr (4, [.int 0, .ref eda, .int 0])), (am 10, .inl (cy 0, 16, .inl (fun _ => 0))), (am 11, .inl (cy 8, 4, .inr (.inr (.inr (.inr (fun _ => none)))))), (am 12, .inl (cy 1, 4, .inl (fun _ => 0))), (am 13, .inl (cy 0, 4, .inl (fun _ => 0)))]) := hD
  refine lv_aload_n hx hb dX14_frame_15 rfl (lv_at hl 0 rfl) ?_
  refine lv_bipush (v := 100) hx hb dX14_frame_16 (by decide) ?_
  refine va_put (D := D) (ci := 19) (v := .int 100) (ty := .int) (C := RX14) (T := TX14) (N := 19) hx hb hts iw_X14_frame_RX14 tyX14 tyX14_ok nmX14 hown hK hP hD hS 0 rfl rfl 11 (by decide) (hts (.fieldLink RX14 42 "HubcascadeModel" "hostLeft" "I") (by decide +kernel)) (fun _ h9 => h9) rfl (by decide +kernel) rfl rfl (Nat.le_of_ble_eq_true rfl) dX14_frame_18 (fun H locs hP hD hS => ?_)
  have hP : va_P D vwCl ([(am 0, .inr (19, [.int 0, .ref (am 1), .ref (am 4), .ref (am 5), .ref (am 6), .ref (am 7), .ref (am 8), .int 0, .ref (am 9), .int 1, .int (-1), .int 100, .ref (am 10), .long 0, .int 0, .int 0, .int 0, .int 0, .long 0])), (am 1, .inr (4, [.int 1, .ref (am 2), .int 1])), (am 2, .inl (cy 10, 10, .inr (.inr (.inr (.inr (va_up (fun _ => none) 0 (some (am 3)))))))), (am 3, .inr (15, [.int 104, .int 4, .int 0, .int 1, .int 0, .int 0, .int 99, .int (-1), .int 0, .int 0, .int (-1), .int 0, .int 0, .ref (am 11), .ref (am 12), .ref (am 13)])), (am 4, .inl (cy 9, 12, .inr (.inr (.inr (.inr (fun _ => none)))))), (am 5, .inr (4, [.int 0, .ref eda, .int 0])), (am 6, .inr (4, [.int 0, .ref eda, .int 0])), (am 7, .inr (4, [.int 0, .ref eda, .int 0])), (am 8, .inl (cy 0, 0, .inl (fun _ => 0))), (am 9, .inr (4, [.int 0, .ref eda, .int 0])), (am 10, .inl (cy 0, 16, .inl (fun _ => 0))), (am 11, .inl (cy 8, 4, .inr (.inr (.inr (.inr (fun _ => none)))))), (am 12, .inl (cy 1, 4, .inl (fun _ => 0))), (am 13, .inl (cy 0, 4, .inl (fun _ => 0)))]) H := hP
  have hD : va_D A ([(am 0, .inr (19, [.int 0, .ref (am 1), .ref (am 4), .ref (am 5), .ref (am 6), .ref (am 7), .ref (am 8), .int 0, .ref (am 9), .int 1, .int (-1), .int 100, .ref (am 10), .long 0, .int 0, .int 0, .int 0, .int 0, .long 0])), (am 1, .inr (4, [.int 1, .ref (am 2), .int 1])), (am 2, .inl (cy 10, 10, .inr (.inr (.inr (.inr (va_up (fun _ => none) 0 (some (am 3)))))))), (am 3, .inr (15, [.int 104, .int 4, .int 0, .int 1, .int 0, .int 0, .int 99, .int (-1), .int 0, .int 0, .int (-1), .int 0, .int 0, .ref (am 11), .ref (am 12), .ref (am 13)])), (am 4, .inl (cy 9, 12, .inr (.inr (.inr (.inr (fun _ => none)))))), (am 5, .inr (4, [.int 0, .ref eda, .int 0])), (am 6, .inr (4, [.int 0, .ref eda, .int 0])), (am 7, .inr (4, [.int 0, .ref eda, .int 0])), (am 8, .inl (cy 0, 0, .inl (fun _ => 0))), (am 9, .inr (4, [.int 0, .ref eda, .int 0])), (am 10, .inl (cy 0, 16, .inl (fun _ => 0))), (am 11, .inl (cy 8, 4, .inr (.inr (.inr (.inr (fun _ => none)))))), (am 12, .inl (cy 1, 4, .inl (fun _ => 0))), (am 13, .inl (cy 0, 4, .inl (fun _ => 0)))]) := hD
  refine lv_iconst (v := 0) hx hb dX14_frame_21 (by decide) ?_
  refine lv_istore_n (lv' := [(1, .int 0), (0, .ref (am 0))]) hx hb dX14_frame_22 rfl hl (by decide) rfl (fun ls hl => ?_)
  refine lv_iload_n hx hb dX14_frame_23 rfl (lv_at hl 0 rfl) ?_
  refine lv_bipush (v := 16) hx hb dX14_frame_24 (by decide) ?_
  refine lv_icmp_ge (tgt := 43) hx hb dX14_frame_26 (by decide) (fun c => absurd c (by decide)) (fun _ => ?_)
  refine lv_aload_n hx hb dX14_frame_29 rfl (lv_at hl 1 rfl) ?_
  refine va_get (D := D) (ci := 19) (v := .ref (am 10)) (C := RX14) (T := TX14) (N := 19) hx hb hts iw_X14_frame_RX14 hown hK hP 0 rfl rfl 12 (by decide) (hts (.fieldLink RX14 45 "HubcascadeModel" "hubLeft" "[I") (by decide +kernel)) (fun _ h9 => h9) rfl dX14_frame_30 ?_
  refine lv_iload_n hx hb dX14_frame_33 rfl (lv_at hl 0 rfl) ?_
  refine lv_bipush (v := 60) hx hb dX14_frame_34 (by decide) ?_
  refine va_iast hx hb hK hP hD hS 10 0 rfl rfl (by unfold vp_in; decide) dX14_frame_36 (fun H locs hP hD hS => ?_)
  obtain ⟨f_1, ef_1⟩ : ∃ z, z = upd (fun _ => 0) (Int32.toNatClampNeg 0) 60 := ⟨_, rfl⟩
  rw [← ef_1] at hP hD
  have hP : va_P D vwCl ([(am 0, .inr (19, [.int 0, .ref (am 1), .ref (am 4), .ref (am 5), .ref (am 6), .ref (am 7), .ref (am 8), .int 0, .ref (am 9), .int 1, .int (-1), .int 100, .ref (am 10), .long 0, .int 0, .int 0, .int 0, .int 0, .long 0])), (am 1, .inr (4, [.int 1, .ref (am 2), .int 1])), (am 2, .inl (cy 10, 10, .inr (.inr (.inr (.inr (va_up (fun _ => none) 0 (some (am 3)))))))), (am 3, .inr (15, [.int 104, .int 4, .int 0, .int 1, .int 0, .int 0, .int 99, .int (-1), .int 0, .int 0, .int (-1), .int 0, .int 0, .ref (am 11), .ref (am 12), .ref (am 13)])), (am 4, .inl (cy 9, 12, .inr (.inr (.inr (.inr (fun _ => none)))))), (am 5, .inr (4, [.int 0, .ref eda, .int 0])), (am 6, .inr (4, [.int 0, .ref eda, .int 0])), (am 7, .inr (4, [.int 0, .ref eda, .int 0])), (am 8, .inl (cy 0, 0, .inl (fun _ => 0))), (am 9, .inr (4, [.int 0, .ref eda, .int 0])), (am 10, .inl (cy 0, 16, .inl (f_1))), (am 11, .inl (cy 8, 4, .inr (.inr (.inr (.inr (fun _ => none)))))), (am 12, .inl (cy 1, 4, .inl (fun _ => 0))), (am 13, .inl (cy 0, 4, .inl (fun _ => 0)))]) H := hP
  have hD : va_D A ([(am 0, .inr (19, [.int 0, .ref (am 1), .ref (am 4), .ref (am 5), .ref (am 6), .ref (am 7), .ref (am 8), .int 0, .ref (am 9), .int 1, .int (-1), .int 100, .ref (am 10), .long 0, .int 0, .int 0, .int 0, .int 0, .long 0])), (am 1, .inr (4, [.int 1, .ref (am 2), .int 1])), (am 2, .inl (cy 10, 10, .inr (.inr (.inr (.inr (va_up (fun _ => none) 0 (some (am 3)))))))), (am 3, .inr (15, [.int 104, .int 4, .int 0, .int 1, .int 0, .int 0, .int 99, .int (-1), .int 0, .int 0, .int (-1), .int 0, .int 0, .ref (am 11), .ref (am 12), .ref (am 13)])), (am 4, .inl (cy 9, 12, .inr (.inr (.inr (.inr (fun _ => none)))))), (am 5, .inr (4, [.int 0, .ref eda, .int 0])), (am 6, .inr (4, [.int 0, .ref eda, .int 0])), (am 7, .inr (4, [.int 0, .ref eda, .int 0])), (am 8, .inl (cy 0, 0, .inl (fun _ => 0))), (am 9, .inr (4, [.int 0, .ref eda, .int 0])), (am 10, .inl (cy 0, 16, .inl (f_1))), (am 11, .inl (cy 8, 4, .inr (.inr (.inr (.inr (fun _ => none)))))), (am 12, .inl (cy 1, 4, .inl (fun _ => 0))), (am 13, .inl (cy 0, 4, .inl (fun _ => 0)))]) := hD
  refine lv_iinc (v := 1) (lv' := [(1, .int 1), (0, .ref (am 0))]) hx hb dX14_frame_37 hl (k := 0) rfl (by decide) (by decide) rfl (fun ls hl => ?_)
  refine lv_goto (tgt := 23) hx hb dX14_frame_40 (by decide) ?_
  refine lv_iload_n hx hb dX14_frame_23 rfl (lv_at hl 0 rfl) ?_
  refine lv_bipush (v := 16) hx hb dX14_frame_24 (by decide) ?_
  refine lv_icmp_ge (tgt := 43) hx hb dX14_frame_26 (by decide) (fun c => absurd c (by decide)) (fun _ => ?_)
  refine lv_aload_n hx hb dX14_frame_29 rfl (lv_at hl 1 rfl) ?_
  refine va_get (D := D) (ci := 19) (v := .ref (am 10)) (C := RX14) (T := TX14) (N := 19) hx hb hts iw_X14_frame_RX14 hown hK hP 0 rfl rfl 12 (by decide) (hts (.fieldLink RX14 45 "HubcascadeModel" "hubLeft" "[I") (by decide +kernel)) (fun _ h9 => h9) rfl dX14_frame_30 ?_
  refine lv_iload_n hx hb dX14_frame_33 rfl (lv_at hl 0 rfl) ?_
  refine lv_bipush (v := 60) hx hb dX14_frame_34 (by decide) ?_
  refine va_iast hx hb hK hP hD hS 10 0 rfl rfl (by unfold vp_in; decide) dX14_frame_36 (fun H locs hP hD hS => ?_)
  obtain ⟨f_2, ef_2⟩ : ∃ z, z = upd (f_1) (Int32.toNatClampNeg 1) 60 := ⟨_, rfl⟩
  rw [← ef_2] at hP hD
  have hP : va_P D vwCl ([(am 0, .inr (19, [.int 0, .ref (am 1), .ref (am 4), .ref (am 5), .ref (am 6), .ref (am 7), .ref (am 8), .int 0, .ref (am 9), .int 1, .int (-1), .int 100, .ref (am 10), .long 0, .int 0, .int 0, .int 0, .int 0, .long 0])), (am 1, .inr (4, [.int 1, .ref (am 2), .int 1])), (am 2, .inl (cy 10, 10, .inr (.inr (.inr (.inr (va_up (fun _ => none) 0 (some (am 3)))))))), (am 3, .inr (15, [.int 104, .int 4, .int 0, .int 1, .int 0, .int 0, .int 99, .int (-1), .int 0, .int 0, .int (-1), .int 0, .int 0, .ref (am 11), .ref (am 12), .ref (am 13)])), (am 4, .inl (cy 9, 12, .inr (.inr (.inr (.inr (fun _ => none)))))), (am 5, .inr (4, [.int 0, .ref eda, .int 0])), (am 6, .inr (4, [.int 0, .ref eda, .int 0])), (am 7, .inr (4, [.int 0, .ref eda, .int 0])), (am 8, .inl (cy 0, 0, .inl (fun _ => 0))), (am 9, .inr (4, [.int 0, .ref eda, .int 0])), (am 10, .inl (cy 0, 16, .inl (f_2))), (am 11, .inl (cy 8, 4, .inr (.inr (.inr (.inr (fun _ => none)))))), (am 12, .inl (cy 1, 4, .inl (fun _ => 0))), (am 13, .inl (cy 0, 4, .inl (fun _ => 0)))]) H := hP
  have hD : va_D A ([(am 0, .inr (19, [.int 0, .ref (am 1), .ref (am 4), .ref (am 5), .ref (am 6), .ref (am 7), .ref (am 8), .int 0, .ref (am 9), .int 1, .int (-1), .int 100, .ref (am 10), .long 0, .int 0, .int 0, .int 0, .int 0, .long 0])), (am 1, .inr (4, [.int 1, .ref (am 2), .int 1])), (am 2, .inl (cy 10, 10, .inr (.inr (.inr (.inr (va_up (fun _ => none) 0 (some (am 3)))))))), (am 3, .inr (15, [.int 104, .int 4, .int 0, .int 1, .int 0, .int 0, .int 99, .int (-1), .int 0, .int 0, .int (-1), .int 0, .int 0, .ref (am 11), .ref (am 12), .ref (am 13)])), (am 4, .inl (cy 9, 12, .inr (.inr (.inr (.inr (fun _ => none)))))), (am 5, .inr (4, [.int 0, .ref eda, .int 0])), (am 6, .inr (4, [.int 0, .ref eda, .int 0])), (am 7, .inr (4, [.int 0, .ref eda, .int 0])), (am 8, .inl (cy 0, 0, .inl (fun _ => 0))), (am 9, .inr (4, [.int 0, .ref eda, .int 0])), (am 10, .inl (cy 0, 16, .inl (f_2))), (am 11, .inl (cy 8, 4, .inr (.inr (.inr (.inr (fun _ => none)))))), (am 12, .inl (cy 1, 4, .inl (fun _ => 0))), (am 13, .inl (cy 0, 4, .inl (fun _ => 0)))]) := hD
  refine lv_iinc (v := 2) (lv' := [(1, .int 2), (0, .ref (am 0))]) hx hb dX14_frame_37 hl (k := 0) rfl (by decide) (by decide) rfl (fun ls hl => ?_)
  refine lv_goto (tgt := 23) hx hb dX14_frame_40 (by decide) ?_
  refine lv_iload_n hx hb dX14_frame_23 rfl (lv_at hl 0 rfl) ?_
  refine lv_bipush (v := 16) hx hb dX14_frame_24 (by decide) ?_
  refine lv_icmp_ge (tgt := 43) hx hb dX14_frame_26 (by decide) (fun c => absurd c (by decide)) (fun _ => ?_)
  refine lv_aload_n hx hb dX14_frame_29 rfl (lv_at hl 1 rfl) ?_
  refine va_get (D := D) (ci := 19) (v := .ref (am 10)) (C := RX14) (T := TX14) (N := 19) hx hb hts iw_X14_frame_RX14 hown hK hP 0 rfl rfl 12 (by decide) (hts (.fieldLink RX14 45 "HubcascadeModel" "hubLeft" "[I") (by decide +kernel)) (fun _ h9 => h9) rfl dX14_frame_30 ?_
  refine lv_iload_n hx hb dX14_frame_33 rfl (lv_at hl 0 rfl) ?_
  refine lv_bipush (v := 60) hx hb dX14_frame_34 (by decide) ?_
  refine va_iast hx hb hK hP hD hS 10 0 rfl rfl (by unfold vp_in; decide) dX14_frame_36 (fun H locs hP hD hS => ?_)
  obtain ⟨f_3, ef_3⟩ : ∃ z, z = upd (f_2) (Int32.toNatClampNeg 2) 60 := ⟨_, rfl⟩
  rw [← ef_3] at hP hD
  have hP : va_P D vwCl ([(am 0, .inr (19, [.int 0, .ref (am 1), .ref (am 4), .ref (am 5), .ref (am 6), .ref (am 7), .ref (am 8), .int 0, .ref (am 9), .int 1, .int (-1), .int 100, .ref (am 10), .long 0, .int 0, .int 0, .int 0, .int 0, .long 0])), (am 1, .inr (4, [.int 1, .ref (am 2), .int 1])), (am 2, .inl (cy 10, 10, .inr (.inr (.inr (.inr (va_up (fun _ => none) 0 (some (am 3)))))))), (am 3, .inr (15, [.int 104, .int 4, .int 0, .int 1, .int 0, .int 0, .int 99, .int (-1), .int 0, .int 0, .int (-1), .int 0, .int 0, .ref (am 11), .ref (am 12), .ref (am 13)])), (am 4, .inl (cy 9, 12, .inr (.inr (.inr (.inr (fun _ => none)))))), (am 5, .inr (4, [.int 0, .ref eda, .int 0])), (am 6, .inr (4, [.int 0, .ref eda, .int 0])), (am 7, .inr (4, [.int 0, .ref eda, .int 0])), (am 8, .inl (cy 0, 0, .inl (fun _ => 0))), (am 9, .inr (4, [.int 0, .ref eda, .int 0])), (am 10, .inl (cy 0, 16, .inl (f_3))), (am 11, .inl (cy 8, 4, .inr (.inr (.inr (.inr (fun _ => none)))))), (am 12, .inl (cy 1, 4, .inl (fun _ => 0))), (am 13, .inl (cy 0, 4, .inl (fun _ => 0)))]) H := hP
  have hD : va_D A ([(am 0, .inr (19, [.int 0, .ref (am 1), .ref (am 4), .ref (am 5), .ref (am 6), .ref (am 7), .ref (am 8), .int 0, .ref (am 9), .int 1, .int (-1), .int 100, .ref (am 10), .long 0, .int 0, .int 0, .int 0, .int 0, .long 0])), (am 1, .inr (4, [.int 1, .ref (am 2), .int 1])), (am 2, .inl (cy 10, 10, .inr (.inr (.inr (.inr (va_up (fun _ => none) 0 (some (am 3)))))))), (am 3, .inr (15, [.int 104, .int 4, .int 0, .int 1, .int 0, .int 0, .int 99, .int (-1), .int 0, .int 0, .int (-1), .int 0, .int 0, .ref (am 11), .ref (am 12), .ref (am 13)])), (am 4, .inl (cy 9, 12, .inr (.inr (.inr (.inr (fun _ => none)))))), (am 5, .inr (4, [.int 0, .ref eda, .int 0])), (am 6, .inr (4, [.int 0, .ref eda, .int 0])), (am 7, .inr (4, [.int 0, .ref eda, .int 0])), (am 8, .inl (cy 0, 0, .inl (fun _ => 0))), (am 9, .inr (4, [.int 0, .ref eda, .int 0])), (am 10, .inl (cy 0, 16, .inl (f_3))), (am 11, .inl (cy 8, 4, .inr (.inr (.inr (.inr (fun _ => none)))))), (am 12, .inl (cy 1, 4, .inl (fun _ => 0))), (am 13, .inl (cy 0, 4, .inl (fun _ => 0)))]) := hD
  refine lv_iinc (v := 3) (lv' := [(1, .int 3), (0, .ref (am 0))]) hx hb dX14_frame_37 hl (k := 0) rfl (by decide) (by decide) rfl (fun ls hl => ?_)
  refine lv_goto (tgt := 23) hx hb dX14_frame_40 (by decide) ?_
  refine lv_iload_n hx hb dX14_frame_23 rfl (lv_at hl 0 rfl) ?_
  refine lv_bipush (v := 16) hx hb dX14_frame_24 (by decide) ?_
  refine lv_icmp_ge (tgt := 43) hx hb dX14_frame_26 (by decide) (fun c => absurd c (by decide)) (fun _ => ?_)
  refine lv_aload_n hx hb dX14_frame_29 rfl (lv_at hl 1 rfl) ?_
  refine va_get (D := D) (ci := 19) (v := .ref (am 10)) (C := RX14) (T := TX14) (N := 19) hx hb hts iw_X14_frame_RX14 hown hK hP 0 rfl rfl 12 (by decide) (hts (.fieldLink RX14 45 "HubcascadeModel" "hubLeft" "[I") (by decide +kernel)) (fun _ h9 => h9) rfl dX14_frame_30 ?_
  refine lv_iload_n hx hb dX14_frame_33 rfl (lv_at hl 0 rfl) ?_
  refine lv_bipush (v := 60) hx hb dX14_frame_34 (by decide) ?_
  refine va_iast hx hb hK hP hD hS 10 0 rfl rfl (by unfold vp_in; decide) dX14_frame_36 (fun H locs hP hD hS => ?_)
  obtain ⟨f_4, ef_4⟩ : ∃ z, z = upd (f_3) (Int32.toNatClampNeg 3) 60 := ⟨_, rfl⟩
  rw [← ef_4] at hP hD
  have hP : va_P D vwCl ([(am 0, .inr (19, [.int 0, .ref (am 1), .ref (am 4), .ref (am 5), .ref (am 6), .ref (am 7), .ref (am 8), .int 0, .ref (am 9), .int 1, .int (-1), .int 100, .ref (am 10), .long 0, .int 0, .int 0, .int 0, .int 0, .long 0])), (am 1, .inr (4, [.int 1, .ref (am 2), .int 1])), (am 2, .inl (cy 10, 10, .inr (.inr (.inr (.inr (va_up (fun _ => none) 0 (some (am 3)))))))), (am 3, .inr (15, [.int 104, .int 4, .int 0, .int 1, .int 0, .int 0, .int 99, .int (-1), .int 0, .int 0, .int (-1), .int 0, .int 0, .ref (am 11), .ref (am 12), .ref (am 13)])), (am 4, .inl (cy 9, 12, .inr (.inr (.inr (.inr (fun _ => none)))))), (am 5, .inr (4, [.int 0, .ref eda, .int 0])), (am 6, .inr (4, [.int 0, .ref eda, .int 0])), (am 7, .inr (4, [.int 0, .ref eda, .int 0])), (am 8, .inl (cy 0, 0, .inl (fun _ => 0))), (am 9, .inr (4, [.int 0, .ref eda, .int 0])), (am 10, .inl (cy 0, 16, .inl (f_4))), (am 11, .inl (cy 8, 4, .inr (.inr (.inr (.inr (fun _ => none)))))), (am 12, .inl (cy 1, 4, .inl (fun _ => 0))), (am 13, .inl (cy 0, 4, .inl (fun _ => 0)))]) H := hP
  have hD : va_D A ([(am 0, .inr (19, [.int 0, .ref (am 1), .ref (am 4), .ref (am 5), .ref (am 6), .ref (am 7), .ref (am 8), .int 0, .ref (am 9), .int 1, .int (-1), .int 100, .ref (am 10), .long 0, .int 0, .int 0, .int 0, .int 0, .long 0])), (am 1, .inr (4, [.int 1, .ref (am 2), .int 1])), (am 2, .inl (cy 10, 10, .inr (.inr (.inr (.inr (va_up (fun _ => none) 0 (some (am 3)))))))), (am 3, .inr (15, [.int 104, .int 4, .int 0, .int 1, .int 0, .int 0, .int 99, .int (-1), .int 0, .int 0, .int (-1), .int 0, .int 0, .ref (am 11), .ref (am 12), .ref (am 13)])), (am 4, .inl (cy 9, 12, .inr (.inr (.inr (.inr (fun _ => none)))))), (am 5, .inr (4, [.int 0, .ref eda, .int 0])), (am 6, .inr (4, [.int 0, .ref eda, .int 0])), (am 7, .inr (4, [.int 0, .ref eda, .int 0])), (am 8, .inl (cy 0, 0, .inl (fun _ => 0))), (am 9, .inr (4, [.int 0, .ref eda, .int 0])), (am 10, .inl (cy 0, 16, .inl (f_4))), (am 11, .inl (cy 8, 4, .inr (.inr (.inr (.inr (fun _ => none)))))), (am 12, .inl (cy 1, 4, .inl (fun _ => 0))), (am 13, .inl (cy 0, 4, .inl (fun _ => 0)))]) := hD
  refine lv_iinc (v := 4) (lv' := [(1, .int 4), (0, .ref (am 0))]) hx hb dX14_frame_37 hl (k := 0) rfl (by decide) (by decide) rfl (fun ls hl => ?_)
  refine lv_goto (tgt := 23) hx hb dX14_frame_40 (by decide) ?_
  refine lv_iload_n hx hb dX14_frame_23 rfl (lv_at hl 0 rfl) ?_
  refine lv_bipush (v := 16) hx hb dX14_frame_24 (by decide) ?_
  refine lv_icmp_ge (tgt := 43) hx hb dX14_frame_26 (by decide) (fun c => absurd c (by decide)) (fun _ => ?_)
  refine lv_aload_n hx hb dX14_frame_29 rfl (lv_at hl 1 rfl) ?_
  refine va_get (D := D) (ci := 19) (v := .ref (am 10)) (C := RX14) (T := TX14) (N := 19) hx hb hts iw_X14_frame_RX14 hown hK hP 0 rfl rfl 12 (by decide) (hts (.fieldLink RX14 45 "HubcascadeModel" "hubLeft" "[I") (by decide +kernel)) (fun _ h9 => h9) rfl dX14_frame_30 ?_
  refine lv_iload_n hx hb dX14_frame_33 rfl (lv_at hl 0 rfl) ?_
  refine lv_bipush (v := 60) hx hb dX14_frame_34 (by decide) ?_
  refine va_iast hx hb hK hP hD hS 10 0 rfl rfl (by unfold vp_in; decide) dX14_frame_36 (fun H locs hP hD hS => ?_)
  obtain ⟨f_5, ef_5⟩ : ∃ z, z = upd (f_4) (Int32.toNatClampNeg 4) 60 := ⟨_, rfl⟩
  rw [← ef_5] at hP hD
  have hP : va_P D vwCl ([(am 0, .inr (19, [.int 0, .ref (am 1), .ref (am 4), .ref (am 5), .ref (am 6), .ref (am 7), .ref (am 8), .int 0, .ref (am 9), .int 1, .int (-1), .int 100, .ref (am 10), .long 0, .int 0, .int 0, .int 0, .int 0, .long 0])), (am 1, .inr (4, [.int 1, .ref (am 2), .int 1])), (am 2, .inl (cy 10, 10, .inr (.inr (.inr (.inr (va_up (fun _ => none) 0 (some (am 3)))))))), (am 3, .inr (15, [.int 104, .int 4, .int 0, .int 1, .int 0, .int 0, .int 99, .int (-1), .int 0, .int 0, .int (-1), .int 0, .int 0, .ref (am 11), .ref (am 12), .ref (am 13)])), (am 4, .inl (cy 9, 12, .inr (.inr (.inr (.inr (fun _ => none)))))), (am 5, .inr (4, [.int 0, .ref eda, .int 0])), (am 6, .inr (4, [.int 0, .ref eda, .int 0])), (am 7, .inr (4, [.int 0, .ref eda, .int 0])), (am 8, .inl (cy 0, 0, .inl (fun _ => 0))), (am 9, .inr (4, [.int 0, .ref eda, .int 0])), (am 10, .inl (cy 0, 16, .inl (f_5))), (am 11, .inl (cy 8, 4, .inr (.inr (.inr (.inr (fun _ => none)))))), (am 12, .inl (cy 1, 4, .inl (fun _ => 0))), (am 13, .inl (cy 0, 4, .inl (fun _ => 0)))]) H := hP
  have hD : va_D A ([(am 0, .inr (19, [.int 0, .ref (am 1), .ref (am 4), .ref (am 5), .ref (am 6), .ref (am 7), .ref (am 8), .int 0, .ref (am 9), .int 1, .int (-1), .int 100, .ref (am 10), .long 0, .int 0, .int 0, .int 0, .int 0, .long 0])), (am 1, .inr (4, [.int 1, .ref (am 2), .int 1])), (am 2, .inl (cy 10, 10, .inr (.inr (.inr (.inr (va_up (fun _ => none) 0 (some (am 3)))))))), (am 3, .inr (15, [.int 104, .int 4, .int 0, .int 1, .int 0, .int 0, .int 99, .int (-1), .int 0, .int 0, .int (-1), .int 0, .int 0, .ref (am 11), .ref (am 12), .ref (am 13)])), (am 4, .inl (cy 9, 12, .inr (.inr (.inr (.inr (fun _ => none)))))), (am 5, .inr (4, [.int 0, .ref eda, .int 0])), (am 6, .inr (4, [.int 0, .ref eda, .int 0])), (am 7, .inr (4, [.int 0, .ref eda, .int 0])), (am 8, .inl (cy 0, 0, .inl (fun _ => 0))), (am 9, .inr (4, [.int 0, .ref eda, .int 0])), (am 10, .inl (cy 0, 16, .inl (f_5))), (am 11, .inl (cy 8, 4, .inr (.inr (.inr (.inr (fun _ => none)))))), (am 12, .inl (cy 1, 4, .inl (fun _ => 0))), (am 13, .inl (cy 0, 4, .inl (fun _ => 0)))]) := hD
  refine lv_iinc (v := 5) (lv' := [(1, .int 5), (0, .ref (am 0))]) hx hb dX14_frame_37 hl (k := 0) rfl (by decide) (by decide) rfl (fun ls hl => ?_)
  refine lv_goto (tgt := 23) hx hb dX14_frame_40 (by decide) ?_
  refine lv_iload_n hx hb dX14_frame_23 rfl (lv_at hl 0 rfl) ?_
  refine lv_bipush (v := 16) hx hb dX14_frame_24 (by decide) ?_
  refine lv_icmp_ge (tgt := 43) hx hb dX14_frame_26 (by decide) (fun c => absurd c (by decide)) (fun _ => ?_)
  refine lv_aload_n hx hb dX14_frame_29 rfl (lv_at hl 1 rfl) ?_
  refine va_get (D := D) (ci := 19) (v := .ref (am 10)) (C := RX14) (T := TX14) (N := 19) hx hb hts iw_X14_frame_RX14 hown hK hP 0 rfl rfl 12 (by decide) (hts (.fieldLink RX14 45 "HubcascadeModel" "hubLeft" "[I") (by decide +kernel)) (fun _ h9 => h9) rfl dX14_frame_30 ?_
  refine lv_iload_n hx hb dX14_frame_33 rfl (lv_at hl 0 rfl) ?_
  refine lv_bipush (v := 60) hx hb dX14_frame_34 (by decide) ?_
  refine va_iast hx hb hK hP hD hS 10 0 rfl rfl (by unfold vp_in; decide) dX14_frame_36 (fun H locs hP hD hS => ?_)
  obtain ⟨f_6, ef_6⟩ : ∃ z, z = upd (f_5) (Int32.toNatClampNeg 5) 60 := ⟨_, rfl⟩
  rw [← ef_6] at hP hD
  have hP : va_P D vwCl ([(am 0, .inr (19, [.int 0, .ref (am 1), .ref (am 4), .ref (am 5), .ref (am 6), .ref (am 7), .ref (am 8), .int 0, .ref (am 9), .int 1, .int (-1), .int 100, .ref (am 10), .long 0, .int 0, .int 0, .int 0, .int 0, .long 0])), (am 1, .inr (4, [.int 1, .ref (am 2), .int 1])), (am 2, .inl (cy 10, 10, .inr (.inr (.inr (.inr (va_up (fun _ => none) 0 (some (am 3)))))))), (am 3, .inr (15, [.int 104, .int 4, .int 0, .int 1, .int 0, .int 0, .int 99, .int (-1), .int 0, .int 0, .int (-1), .int 0, .int 0, .ref (am 11), .ref (am 12), .ref (am 13)])), (am 4, .inl (cy 9, 12, .inr (.inr (.inr (.inr (fun _ => none)))))), (am 5, .inr (4, [.int 0, .ref eda, .int 0])), (am 6, .inr (4, [.int 0, .ref eda, .int 0])), (am 7, .inr (4, [.int 0, .ref eda, .int 0])), (am 8, .inl (cy 0, 0, .inl (fun _ => 0))), (am 9, .inr (4, [.int 0, .ref eda, .int 0])), (am 10, .inl (cy 0, 16, .inl (f_6))), (am 11, .inl (cy 8, 4, .inr (.inr (.inr (.inr (fun _ => none)))))), (am 12, .inl (cy 1, 4, .inl (fun _ => 0))), (am 13, .inl (cy 0, 4, .inl (fun _ => 0)))]) H := hP
  have hD : va_D A ([(am 0, .inr (19, [.int 0, .ref (am 1), .ref (am 4), .ref (am 5), .ref (am 6), .ref (am 7), .ref (am 8), .int 0, .ref (am 9), .int 1, .int (-1), .int 100, .ref (am 10), .long 0, .int 0, .int 0, .int 0, .int 0, .long 0])), (am 1, .inr (4, [.int 1, .ref (am 2), .int 1])), (am 2, .inl (cy 10, 10, .inr (.inr (.inr (.inr (va_up (fun _ => none) 0 (some (am 3)))))))), (am 3, .inr (15, [.int 104, .int 4, .int 0, .int 1, .int 0, .int 0, .int 99, .int (-1), .int 0, .int 0, .int (-1), .int 0, .int 0, .ref (am 11), .ref (am 12), .ref (am 13)])), (am 4, .inl (cy 9, 12, .inr (.inr (.inr (.inr (fun _ => none)))))), (am 5, .inr (4, [.int 0, .ref eda, .int 0])), (am 6, .inr (4, [.int 0, .ref eda, .int 0])), (am 7, .inr (4, [.int 0, .ref eda, .int 0])), (am 8, .inl (cy 0, 0, .inl (fun _ => 0))), (am 9, .inr (4, [.int 0, .ref eda, .int 0])), (am 10, .inl (cy 0, 16, .inl (f_6))), (am 11, .inl (cy 8, 4, .inr (.inr (.inr (.inr (fun _ => none)))))), (am 12, .inl (cy 1, 4, .inl (fun _ => 0))), (am 13, .inl (cy 0, 4, .inl (fun _ => 0)))]) := hD
  refine lv_iinc (v := 6) (lv' := [(1, .int 6), (0, .ref (am 0))]) hx hb dX14_frame_37 hl (k := 0) rfl (by decide) (by decide) rfl (fun ls hl => ?_)
  refine lv_goto (tgt := 23) hx hb dX14_frame_40 (by decide) ?_
  refine lv_iload_n hx hb dX14_frame_23 rfl (lv_at hl 0 rfl) ?_
  refine lv_bipush (v := 16) hx hb dX14_frame_24 (by decide) ?_
  refine lv_icmp_ge (tgt := 43) hx hb dX14_frame_26 (by decide) (fun c => absurd c (by decide)) (fun _ => ?_)
  refine lv_aload_n hx hb dX14_frame_29 rfl (lv_at hl 1 rfl) ?_
  refine va_get (D := D) (ci := 19) (v := .ref (am 10)) (C := RX14) (T := TX14) (N := 19) hx hb hts iw_X14_frame_RX14 hown hK hP 0 rfl rfl 12 (by decide) (hts (.fieldLink RX14 45 "HubcascadeModel" "hubLeft" "[I") (by decide +kernel)) (fun _ h9 => h9) rfl dX14_frame_30 ?_
  refine lv_iload_n hx hb dX14_frame_33 rfl (lv_at hl 0 rfl) ?_
  refine lv_bipush (v := 60) hx hb dX14_frame_34 (by decide) ?_
  refine va_iast hx hb hK hP hD hS 10 0 rfl rfl (by unfold vp_in; decide) dX14_frame_36 (fun H locs hP hD hS => ?_)
  obtain ⟨f_7, ef_7⟩ : ∃ z, z = upd (f_6) (Int32.toNatClampNeg 6) 60 := ⟨_, rfl⟩
  rw [← ef_7] at hP hD
  have hP : va_P D vwCl ([(am 0, .inr (19, [.int 0, .ref (am 1), .ref (am 4), .ref (am 5), .ref (am 6), .ref (am 7), .ref (am 8), .int 0, .ref (am 9), .int 1, .int (-1), .int 100, .ref (am 10), .long 0, .int 0, .int 0, .int 0, .int 0, .long 0])), (am 1, .inr (4, [.int 1, .ref (am 2), .int 1])), (am 2, .inl (cy 10, 10, .inr (.inr (.inr (.inr (va_up (fun _ => none) 0 (some (am 3)))))))), (am 3, .inr (15, [.int 104, .int 4, .int 0, .int 1, .int 0, .int 0, .int 99, .int (-1), .int 0, .int 0, .int (-1), .int 0, .int 0, .ref (am 11), .ref (am 12), .ref (am 13)])), (am 4, .inl (cy 9, 12, .inr (.inr (.inr (.inr (fun _ => none)))))), (am 5, .inr (4, [.int 0, .ref eda, .int 0])), (am 6, .inr (4, [.int 0, .ref eda, .int 0])), (am 7, .inr (4, [.int 0, .ref eda, .int 0])), (am 8, .inl (cy 0, 0, .inl (fun _ => 0))), (am 9, .inr (4, [.int 0, .ref eda, .int 0])), (am 10, .inl (cy 0, 16, .inl (f_7))), (am 11, .inl (cy 8, 4, .inr (.inr (.inr (.inr (fun _ => none)))))), (am 12, .inl (cy 1, 4, .inl (fun _ => 0))), (am 13, .inl (cy 0, 4, .inl (fun _ => 0)))]) H := hP
  have hD : va_D A ([(am 0, .inr (19, [.int 0, .ref (am 1), .ref (am 4), .ref (am 5), .ref (am 6), .ref (am 7), .ref (am 8), .int 0, .ref (am 9), .int 1, .int (-1), .int 100, .ref (am 10), .long 0, .int 0, .int 0, .int 0, .int 0, .long 0])), (am 1, .inr (4, [.int 1, .ref (am 2), .int 1])), (am 2, .inl (cy 10, 10, .inr (.inr (.inr (.inr (va_up (fun _ => none) 0 (some (am 3)))))))), (am 3, .inr (15, [.int 104, .int 4, .int 0, .int 1, .int 0, .int 0, .int 99, .int (-1), .int 0, .int 0, .int (-1), .int 0, .int 0, .ref (am 11), .ref (am 12), .ref (am 13)])), (am 4, .inl (cy 9, 12, .inr (.inr (.inr (.inr (fun _ => none)))))), (am 5, .inr (4, [.int 0, .ref eda, .int 0])), (am 6, .inr (4, [.int 0, .ref eda, .int 0])), (am 7, .inr (4, [.int 0, .ref eda, .int 0])), (am 8, .inl (cy 0, 0, .inl (fun _ => 0))), (am 9, .inr (4, [.int 0, .ref eda, .int 0])), (am 10, .inl (cy 0, 16, .inl (f_7))), (am 11, .inl (cy 8, 4, .inr (.inr (.inr (.inr (fun _ => none)))))), (am 12, .inl (cy 1, 4, .inl (fun _ => 0))), (am 13, .inl (cy 0, 4, .inl (fun _ => 0)))]) := hD
  refine lv_iinc (v := 7) (lv' := [(1, .int 7), (0, .ref (am 0))]) hx hb dX14_frame_37 hl (k := 0) rfl (by decide) (by decide) rfl (fun ls hl => ?_)
  refine lv_goto (tgt := 23) hx hb dX14_frame_40 (by decide) ?_
  refine lv_iload_n hx hb dX14_frame_23 rfl (lv_at hl 0 rfl) ?_
  refine lv_bipush (v := 16) hx hb dX14_frame_24 (by decide) ?_
  refine lv_icmp_ge (tgt := 43) hx hb dX14_frame_26 (by decide) (fun c => absurd c (by decide)) (fun _ => ?_)
  refine lv_aload_n hx hb dX14_frame_29 rfl (lv_at hl 1 rfl) ?_
  refine va_get (D := D) (ci := 19) (v := .ref (am 10)) (C := RX14) (T := TX14) (N := 19) hx hb hts iw_X14_frame_RX14 hown hK hP 0 rfl rfl 12 (by decide) (hts (.fieldLink RX14 45 "HubcascadeModel" "hubLeft" "[I") (by decide +kernel)) (fun _ h9 => h9) rfl dX14_frame_30 ?_
  refine lv_iload_n hx hb dX14_frame_33 rfl (lv_at hl 0 rfl) ?_
  refine lv_bipush (v := 60) hx hb dX14_frame_34 (by decide) ?_
  refine va_iast hx hb hK hP hD hS 10 0 rfl rfl (by unfold vp_in; decide) dX14_frame_36 (fun H locs hP hD hS => ?_)
  obtain ⟨f_8, ef_8⟩ : ∃ z, z = upd (f_7) (Int32.toNatClampNeg 7) 60 := ⟨_, rfl⟩
  rw [← ef_8] at hP hD
  have hP : va_P D vwCl ([(am 0, .inr (19, [.int 0, .ref (am 1), .ref (am 4), .ref (am 5), .ref (am 6), .ref (am 7), .ref (am 8), .int 0, .ref (am 9), .int 1, .int (-1), .int 100, .ref (am 10), .long 0, .int 0, .int 0, .int 0, .int 0, .long 0])), (am 1, .inr (4, [.int 1, .ref (am 2), .int 1])), (am 2, .inl (cy 10, 10, .inr (.inr (.inr (.inr (va_up (fun _ => none) 0 (some (am 3)))))))), (am 3, .inr (15, [.int 104, .int 4, .int 0, .int 1, .int 0, .int 0, .int 99, .int (-1), .int 0, .int 0, .int (-1), .int 0, .int 0, .ref (am 11), .ref (am 12), .ref (am 13)])), (am 4, .inl (cy 9, 12, .inr (.inr (.inr (.inr (fun _ => none)))))), (am 5, .inr (4, [.int 0, .ref eda, .int 0])), (am 6, .inr (4, [.int 0, .ref eda, .int 0])), (am 7, .inr (4, [.int 0, .ref eda, .int 0])), (am 8, .inl (cy 0, 0, .inl (fun _ => 0))), (am 9, .inr (4, [.int 0, .ref eda, .int 0])), (am 10, .inl (cy 0, 16, .inl (f_8))), (am 11, .inl (cy 8, 4, .inr (.inr (.inr (.inr (fun _ => none)))))), (am 12, .inl (cy 1, 4, .inl (fun _ => 0))), (am 13, .inl (cy 0, 4, .inl (fun _ => 0)))]) H := hP
  have hD : va_D A ([(am 0, .inr (19, [.int 0, .ref (am 1), .ref (am 4), .ref (am 5), .ref (am 6), .ref (am 7), .ref (am 8), .int 0, .ref (am 9), .int 1, .int (-1), .int 100, .ref (am 10), .long 0, .int 0, .int 0, .int 0, .int 0, .long 0])), (am 1, .inr (4, [.int 1, .ref (am 2), .int 1])), (am 2, .inl (cy 10, 10, .inr (.inr (.inr (.inr (va_up (fun _ => none) 0 (some (am 3)))))))), (am 3, .inr (15, [.int 104, .int 4, .int 0, .int 1, .int 0, .int 0, .int 99, .int (-1), .int 0, .int 0, .int (-1), .int 0, .int 0, .ref (am 11), .ref (am 12), .ref (am 13)])), (am 4, .inl (cy 9, 12, .inr (.inr (.inr (.inr (fun _ => none)))))), (am 5, .inr (4, [.int 0, .ref eda, .int 0])), (am 6, .inr (4, [.int 0, .ref eda, .int 0])), (am 7, .inr (4, [.int 0, .ref eda, .int 0])), (am 8, .inl (cy 0, 0, .inl (fun _ => 0))), (am 9, .inr (4, [.int 0, .ref eda, .int 0])), (am 10, .inl (cy 0, 16, .inl (f_8))), (am 11, .inl (cy 8, 4, .inr (.inr (.inr (.inr (fun _ => none)))))), (am 12, .inl (cy 1, 4, .inl (fun _ => 0))), (am 13, .inl (cy 0, 4, .inl (fun _ => 0)))]) := hD
  refine lv_iinc (v := 8) (lv' := [(1, .int 8), (0, .ref (am 0))]) hx hb dX14_frame_37 hl (k := 0) rfl (by decide) (by decide) rfl (fun ls hl => ?_)
  refine lv_goto (tgt := 23) hx hb dX14_frame_40 (by decide) ?_
  refine lv_iload_n hx hb dX14_frame_23 rfl (lv_at hl 0 rfl) ?_
  refine lv_bipush (v := 16) hx hb dX14_frame_24 (by decide) ?_
  refine lv_icmp_ge (tgt := 43) hx hb dX14_frame_26 (by decide) (fun c => absurd c (by decide)) (fun _ => ?_)
  refine lv_aload_n hx hb dX14_frame_29 rfl (lv_at hl 1 rfl) ?_
  refine va_get (D := D) (ci := 19) (v := .ref (am 10)) (C := RX14) (T := TX14) (N := 19) hx hb hts iw_X14_frame_RX14 hown hK hP 0 rfl rfl 12 (by decide) (hts (.fieldLink RX14 45 "HubcascadeModel" "hubLeft" "[I") (by decide +kernel)) (fun _ h9 => h9) rfl dX14_frame_30 ?_
  refine lv_iload_n hx hb dX14_frame_33 rfl (lv_at hl 0 rfl) ?_
  refine lv_bipush (v := 60) hx hb dX14_frame_34 (by decide) ?_
  refine va_iast hx hb hK hP hD hS 10 0 rfl rfl (by unfold vp_in; decide) dX14_frame_36 (fun H locs hP hD hS => ?_)
  obtain ⟨f_9, ef_9⟩ : ∃ z, z = upd (f_8) (Int32.toNatClampNeg 8) 60 := ⟨_, rfl⟩
  rw [← ef_9] at hP hD
  have hP : va_P D vwCl ([(am 0, .inr (19, [.int 0, .ref (am 1), .ref (am 4), .ref (am 5), .ref (am 6), .ref (am 7), .ref (am 8), .int 0, .ref (am 9), .int 1, .int (-1), .int 100, .ref (am 10), .long 0, .int 0, .int 0, .int 0, .int 0, .long 0])), (am 1, .inr (4, [.int 1, .ref (am 2), .int 1])), (am 2, .inl (cy 10, 10, .inr (.inr (.inr (.inr (va_up (fun _ => none) 0 (some (am 3)))))))), (am 3, .inr (15, [.int 104, .int 4, .int 0, .int 1, .int 0, .int 0, .int 99, .int (-1), .int 0, .int 0, .int (-1), .int 0, .int 0, .ref (am 11), .ref (am 12), .ref (am 13)])), (am 4, .inl (cy 9, 12, .inr (.inr (.inr (.inr (fun _ => none)))))), (am 5, .inr (4, [.int 0, .ref eda, .int 0])), (am 6, .inr (4, [.int 0, .ref eda, .int 0])), (am 7, .inr (4, [.int 0, .ref eda, .int 0])), (am 8, .inl (cy 0, 0, .inl (fun _ => 0))), (am 9, .inr (4, [.int 0, .ref eda, .int 0])), (am 10, .inl (cy 0, 16, .inl (f_9))), (am 11, .inl (cy 8, 4, .inr (.inr (.inr (.inr (fun _ => none)))))), (am 12, .inl (cy 1, 4, .inl (fun _ => 0))), (am 13, .inl (cy 0, 4, .inl (fun _ => 0)))]) H := hP
  have hD : va_D A ([(am 0, .inr (19, [.int 0, .ref (am 1), .ref (am 4), .ref (am 5), .ref (am 6), .ref (am 7), .ref (am 8), .int 0, .ref (am 9), .int 1, .int (-1), .int 100, .ref (am 10), .long 0, .int 0, .int 0, .int 0, .int 0, .long 0])), (am 1, .inr (4, [.int 1, .ref (am 2), .int 1])), (am 2, .inl (cy 10, 10, .inr (.inr (.inr (.inr (va_up (fun _ => none) 0 (some (am 3)))))))), (am 3, .inr (15, [.int 104, .int 4, .int 0, .int 1, .int 0, .int 0, .int 99, .int (-1), .int 0, .int 0, .int (-1), .int 0, .int 0, .ref (am 11), .ref (am 12), .ref (am 13)])), (am 4, .inl (cy 9, 12, .inr (.inr (.inr (.inr (fun _ => none)))))), (am 5, .inr (4, [.int 0, .ref eda, .int 0])), (am 6, .inr (4, [.int 0, .ref eda, .int 0])), (am 7, .inr (4, [.int 0, .ref eda, .int 0])), (am 8, .inl (cy 0, 0, .inl (fun _ => 0))), (am 9, .inr (4, [.int 0, .ref eda, .int 0])), (am 10, .inl (cy 0, 16, .inl (f_9))), (am 11, .inl (cy 8, 4, .inr (.inr (.inr (.inr (fun _ => none)))))), (am 12, .inl (cy 1, 4, .inl (fun _ => 0))), (am 13, .inl (cy 0, 4, .inl (fun _ => 0)))]) := hD
  refine lv_iinc (v := 9) (lv' := [(1, .int 9), (0, .ref (am 0))]) hx hb dX14_frame_37 hl (k := 0) rfl (by decide) (by decide) rfl (fun ls hl => ?_)
  refine lv_goto (tgt := 23) hx hb dX14_frame_40 (by decide) ?_
  refine lv_iload_n hx hb dX14_frame_23 rfl (lv_at hl 0 rfl) ?_
  refine lv_bipush (v := 16) hx hb dX14_frame_24 (by decide) ?_
  refine lv_icmp_ge (tgt := 43) hx hb dX14_frame_26 (by decide) (fun c => absurd c (by decide)) (fun _ => ?_)
  refine lv_aload_n hx hb dX14_frame_29 rfl (lv_at hl 1 rfl) ?_
  refine va_get (D := D) (ci := 19) (v := .ref (am 10)) (C := RX14) (T := TX14) (N := 19) hx hb hts iw_X14_frame_RX14 hown hK hP 0 rfl rfl 12 (by decide) (hts (.fieldLink RX14 45 "HubcascadeModel" "hubLeft" "[I") (by decide +kernel)) (fun _ h9 => h9) rfl dX14_frame_30 ?_
  refine lv_iload_n hx hb dX14_frame_33 rfl (lv_at hl 0 rfl) ?_
  refine lv_bipush (v := 60) hx hb dX14_frame_34 (by decide) ?_
  refine va_iast hx hb hK hP hD hS 10 0 rfl rfl (by unfold vp_in; decide) dX14_frame_36 (fun H locs hP hD hS => ?_)
  obtain ⟨f_10, ef_10⟩ : ∃ z, z = upd (f_9) (Int32.toNatClampNeg 9) 60 := ⟨_, rfl⟩
  rw [← ef_10] at hP hD
  have hP : va_P D vwCl ([(am 0, .inr (19, [.int 0, .ref (am 1), .ref (am 4), .ref (am 5), .ref (am 6), .ref (am 7), .ref (am 8), .int 0, .ref (am 9), .int 1, .int (-1), .int 100, .ref (am 10), .long 0, .int 0, .int 0, .int 0, .int 0, .long 0])), (am 1, .inr (4, [.int 1, .ref (am 2), .int 1])), (am 2, .inl (cy 10, 10, .inr (.inr (.inr (.inr (va_up (fun _ => none) 0 (some (am 3)))))))), (am 3, .inr (15, [.int 104, .int 4, .int 0, .int 1, .int 0, .int 0, .int 99, .int (-1), .int 0, .int 0, .int (-1), .int 0, .int 0, .ref (am 11), .ref (am 12), .ref (am 13)])), (am 4, .inl (cy 9, 12, .inr (.inr (.inr (.inr (fun _ => none)))))), (am 5, .inr (4, [.int 0, .ref eda, .int 0])), (am 6, .inr (4, [.int 0, .ref eda, .int 0])), (am 7, .inr (4, [.int 0, .ref eda, .int 0])), (am 8, .inl (cy 0, 0, .inl (fun _ => 0))), (am 9, .inr (4, [.int 0, .ref eda, .int 0])), (am 10, .inl (cy 0, 16, .inl (f_10))), (am 11, .inl (cy 8, 4, .inr (.inr (.inr (.inr (fun _ => none)))))), (am 12, .inl (cy 1, 4, .inl (fun _ => 0))), (am 13, .inl (cy 0, 4, .inl (fun _ => 0)))]) H := hP
  have hD : va_D A ([(am 0, .inr (19, [.int 0, .ref (am 1), .ref (am 4), .ref (am 5), .ref (am 6), .ref (am 7), .ref (am 8), .int 0, .ref (am 9), .int 1, .int (-1), .int 100, .ref (am 10), .long 0, .int 0, .int 0, .int 0, .int 0, .long 0])), (am 1, .inr (4, [.int 1, .ref (am 2), .int 1])), (am 2, .inl (cy 10, 10, .inr (.inr (.inr (.inr (va_up (fun _ => none) 0 (some (am 3)))))))), (am 3, .inr (15, [.int 104, .int 4, .int 0, .int 1, .int 0, .int 0, .int 99, .int (-1), .int 0, .int 0, .int (-1), .int 0, .int 0, .ref (am 11), .ref (am 12), .ref (am 13)])), (am 4, .inl (cy 9, 12, .inr (.inr (.inr (.inr (fun _ => none)))))), (am 5, .inr (4, [.int 0, .ref eda, .int 0])), (am 6, .inr (4, [.int 0, .ref eda, .int 0])), (am 7, .inr (4, [.int 0, .ref eda, .int 0])), (am 8, .inl (cy 0, 0, .inl (fun _ => 0))), (am 9, .inr (4, [.int 0, .ref eda, .int 0])), (am 10, .inl (cy 0, 16, .inl (f_10))), (am 11, .inl (cy 8, 4, .inr (.inr (.inr (.inr (fun _ => none)))))), (am 12, .inl (cy 1, 4, .inl (fun _ => 0))), (am 13, .inl (cy 0, 4, .inl (fun _ => 0)))]) := hD
  refine lv_iinc (v := 10) (lv' := [(1, .int 10), (0, .ref (am 0))]) hx hb dX14_frame_37 hl (k := 0) rfl (by decide) (by decide) rfl (fun ls hl => ?_)
  refine lv_goto (tgt := 23) hx hb dX14_frame_40 (by decide) ?_
  refine lv_iload_n hx hb dX14_frame_23 rfl (lv_at hl 0 rfl) ?_
  refine lv_bipush (v := 16) hx hb dX14_frame_24 (by decide) ?_
  refine lv_icmp_ge (tgt := 43) hx hb dX14_frame_26 (by decide) (fun c => absurd c (by decide)) (fun _ => ?_)
  refine lv_aload_n hx hb dX14_frame_29 rfl (lv_at hl 1 rfl) ?_
  refine va_get (D := D) (ci := 19) (v := .ref (am 10)) (C := RX14) (T := TX14) (N := 19) hx hb hts iw_X14_frame_RX14 hown hK hP 0 rfl rfl 12 (by decide) (hts (.fieldLink RX14 45 "HubcascadeModel" "hubLeft" "[I") (by decide +kernel)) (fun _ h9 => h9) rfl dX14_frame_30 ?_
  refine lv_iload_n hx hb dX14_frame_33 rfl (lv_at hl 0 rfl) ?_
  refine lv_bipush (v := 60) hx hb dX14_frame_34 (by decide) ?_
  refine va_iast hx hb hK hP hD hS 10 0 rfl rfl (by unfold vp_in; decide) dX14_frame_36 (fun H locs hP hD hS => ?_)
  obtain ⟨f_11, ef_11⟩ : ∃ z, z = upd (f_10) (Int32.toNatClampNeg 10) 60 := ⟨_, rfl⟩
  rw [← ef_11] at hP hD
  have hP : va_P D vwCl ([(am 0, .inr (19, [.int 0, .ref (am 1), .ref (am 4), .ref (am 5), .ref (am 6), .ref (am 7), .ref (am 8), .int 0, .ref (am 9), .int 1, .int (-1), .int 100, .ref (am 10), .long 0, .int 0, .int 0, .int 0, .int 0, .long 0])), (am 1, .inr (4, [.int 1, .ref (am 2), .int 1])), (am 2, .inl (cy 10, 10, .inr (.inr (.inr (.inr (va_up (fun _ => none) 0 (some (am 3)))))))), (am 3, .inr (15, [.int 104, .int 4, .int 0, .int 1, .int 0, .int 0, .int 99, .int (-1), .int 0, .int 0, .int (-1), .int 0, .int 0, .ref (am 11), .ref (am 12), .ref (am 13)])), (am 4, .inl (cy 9, 12, .inr (.inr (.inr (.inr (fun _ => none)))))), (am 5, .inr (4, [.int 0, .ref eda, .int 0])), (am 6, .inr (4, [.int 0, .ref eda, .int 0])), (am 7, .inr (4, [.int 0, .ref eda, .int 0])), (am 8, .inl (cy 0, 0, .inl (fun _ => 0))), (am 9, .inr (4, [.int 0, .ref eda, .int 0])), (am 10, .inl (cy 0, 16, .inl (f_11))), (am 11, .inl (cy 8, 4, .inr (.inr (.inr (.inr (fun _ => none)))))), (am 12, .inl (cy 1, 4, .inl (fun _ => 0))), (am 13, .inl (cy 0, 4, .inl (fun _ => 0)))]) H := hP
  have hD : va_D A ([(am 0, .inr (19, [.int 0, .ref (am 1), .ref (am 4), .ref (am 5), .ref (am 6), .ref (am 7), .ref (am 8), .int 0, .ref (am 9), .int 1, .int (-1), .int 100, .ref (am 10), .long 0, .int 0, .int 0, .int 0, .int 0, .long 0])), (am 1, .inr (4, [.int 1, .ref (am 2), .int 1])), (am 2, .inl (cy 10, 10, .inr (.inr (.inr (.inr (va_up (fun _ => none) 0 (some (am 3)))))))), (am 3, .inr (15, [.int 104, .int 4, .int 0, .int 1, .int 0, .int 0, .int 99, .int (-1), .int 0, .int 0, .int (-1), .int 0, .int 0, .ref (am 11), .ref (am 12), .ref (am 13)])), (am 4, .inl (cy 9, 12, .inr (.inr (.inr (.inr (fun _ => none)))))), (am 5, .inr (4, [.int 0, .ref eda, .int 0])), (am 6, .inr (4, [.int 0, .ref eda, .int 0])), (am 7, .inr (4, [.int 0, .ref eda, .int 0])), (am 8, .inl (cy 0, 0, .inl (fun _ => 0))), (am 9, .inr (4, [.int 0, .ref eda, .int 0])), (am 10, .inl (cy 0, 16, .inl (f_11))), (am 11, .inl (cy 8, 4, .inr (.inr (.inr (.inr (fun _ => none)))))), (am 12, .inl (cy 1, 4, .inl (fun _ => 0))), (am 13, .inl (cy 0, 4, .inl (fun _ => 0)))]) := hD
  refine lv_iinc (v := 11) (lv' := [(1, .int 11), (0, .ref (am 0))]) hx hb dX14_frame_37 hl (k := 0) rfl (by decide) (by decide) rfl (fun ls hl => ?_)
  refine lv_goto (tgt := 23) hx hb dX14_frame_40 (by decide) ?_
  refine lv_iload_n hx hb dX14_frame_23 rfl (lv_at hl 0 rfl) ?_
  refine lv_bipush (v := 16) hx hb dX14_frame_24 (by decide) ?_
  refine lv_icmp_ge (tgt := 43) hx hb dX14_frame_26 (by decide) (fun c => absurd c (by decide)) (fun _ => ?_)
  refine lv_aload_n hx hb dX14_frame_29 rfl (lv_at hl 1 rfl) ?_
  refine va_get (D := D) (ci := 19) (v := .ref (am 10)) (C := RX14) (T := TX14) (N := 19) hx hb hts iw_X14_frame_RX14 hown hK hP 0 rfl rfl 12 (by decide) (hts (.fieldLink RX14 45 "HubcascadeModel" "hubLeft" "[I") (by decide +kernel)) (fun _ h9 => h9) rfl dX14_frame_30 ?_
  refine lv_iload_n hx hb dX14_frame_33 rfl (lv_at hl 0 rfl) ?_
  refine lv_bipush (v := 60) hx hb dX14_frame_34 (by decide) ?_
  refine va_iast hx hb hK hP hD hS 10 0 rfl rfl (by unfold vp_in; decide) dX14_frame_36 (fun H locs hP hD hS => ?_)
  obtain ⟨f_12, ef_12⟩ : ∃ z, z = upd (f_11) (Int32.toNatClampNeg 11) 60 := ⟨_, rfl⟩
  rw [← ef_12] at hP hD
  have hP : va_P D vwCl ([(am 0, .inr (19, [.int 0, .ref (am 1), .ref (am 4), .ref (am 5), .ref (am 6), .ref (am 7), .ref (am 8), .int 0, .ref (am 9), .int 1, .int (-1), .int 100, .ref (am 10), .long 0, .int 0, .int 0, .int 0, .int 0, .long 0])), (am 1, .inr (4, [.int 1, .ref (am 2), .int 1])), (am 2, .inl (cy 10, 10, .inr (.inr (.inr (.inr (va_up (fun _ => none) 0 (some (am 3)))))))), (am 3, .inr (15, [.int 104, .int 4, .int 0, .int 1, .int 0, .int 0, .int 99, .int (-1), .int 0, .int 0, .int (-1), .int 0, .int 0, .ref (am 11), .ref (am 12), .ref (am 13)])), (am 4, .inl (cy 9, 12, .inr (.inr (.inr (.inr (fun _ => none)))))), (am 5, .inr (4, [.int 0, .ref eda, .int 0])), (am 6, .inr (4, [.int 0, .ref eda, .int 0])), (am 7, .inr (4, [.int 0, .ref eda, .int 0])), (am 8, .inl (cy 0, 0, .inl (fun _ => 0))), (am 9, .inr (4, [.int 0, .ref eda, .int 0])), (am 10, .inl (cy 0, 16, .inl (f_12))), (am 11, .inl (cy 8, 4, .inr (.inr (.inr (.inr (fun _ => none)))))), (am 12, .inl (cy 1, 4, .inl (fun _ => 0))), (am 13, .inl (cy 0, 4, .inl (fun _ => 0)))]) H := hP
  have hD : va_D A ([(am 0, .inr (19, [.int 0, .ref (am 1), .ref (am 4), .ref (am 5), .ref (am 6), .ref (am 7), .ref (am 8), .int 0, .ref (am 9), .int 1, .int (-1), .int 100, .ref (am 10), .long 0, .int 0, .int 0, .int 0, .int 0, .long 0])), (am 1, .inr (4, [.int 1, .ref (am 2), .int 1])), (am 2, .inl (cy 10, 10, .inr (.inr (.inr (.inr (va_up (fun _ => none) 0 (some (am 3)))))))), (am 3, .inr (15, [.int 104, .int 4, .int 0, .int 1, .int 0, .int 0, .int 99, .int (-1), .int 0, .int 0, .int (-1), .int 0, .int 0, .ref (am 11), .ref (am 12), .ref (am 13)])), (am 4, .inl (cy 9, 12, .inr (.inr (.inr (.inr (fun _ => none)))))), (am 5, .inr (4, [.int 0, .ref eda, .int 0])), (am 6, .inr (4, [.int 0, .ref eda, .int 0])), (am 7, .inr (4, [.int 0, .ref eda, .int 0])), (am 8, .inl (cy 0, 0, .inl (fun _ => 0))), (am 9, .inr (4, [.int 0, .ref eda, .int 0])), (am 10, .inl (cy 0, 16, .inl (f_12))), (am 11, .inl (cy 8, 4, .inr (.inr (.inr (.inr (fun _ => none)))))), (am 12, .inl (cy 1, 4, .inl (fun _ => 0))), (am 13, .inl (cy 0, 4, .inl (fun _ => 0)))]) := hD
  refine lv_iinc (v := 12) (lv' := [(1, .int 12), (0, .ref (am 0))]) hx hb dX14_frame_37 hl (k := 0) rfl (by decide) (by decide) rfl (fun ls hl => ?_)
  refine lv_goto (tgt := 23) hx hb dX14_frame_40 (by decide) ?_
  refine lv_iload_n hx hb dX14_frame_23 rfl (lv_at hl 0 rfl) ?_
  refine lv_bipush (v := 16) hx hb dX14_frame_24 (by decide) ?_
  refine lv_icmp_ge (tgt := 43) hx hb dX14_frame_26 (by decide) (fun c => absurd c (by decide)) (fun _ => ?_)
  refine lv_aload_n hx hb dX14_frame_29 rfl (lv_at hl 1 rfl) ?_
  refine va_get (D := D) (ci := 19) (v := .ref (am 10)) (C := RX14) (T := TX14) (N := 19) hx hb hts iw_X14_frame_RX14 hown hK hP 0 rfl rfl 12 (by decide) (hts (.fieldLink RX14 45 "HubcascadeModel" "hubLeft" "[I") (by decide +kernel)) (fun _ h9 => h9) rfl dX14_frame_30 ?_
  refine lv_iload_n hx hb dX14_frame_33 rfl (lv_at hl 0 rfl) ?_
  refine lv_bipush (v := 60) hx hb dX14_frame_34 (by decide) ?_
  refine va_iast hx hb hK hP hD hS 10 0 rfl rfl (by unfold vp_in; decide) dX14_frame_36 (fun H locs hP hD hS => ?_)
  obtain ⟨f_13, ef_13⟩ : ∃ z, z = upd (f_12) (Int32.toNatClampNeg 12) 60 := ⟨_, rfl⟩
  rw [← ef_13] at hP hD
  have hP : va_P D vwCl ([(am 0, .inr (19, [.int 0, .ref (am 1), .ref (am 4), .ref (am 5), .ref (am 6), .ref (am 7), .ref (am 8), .int 0, .ref (am 9), .int 1, .int (-1), .int 100, .ref (am 10), .long 0, .int 0, .int 0, .int 0, .int 0, .long 0])), (am 1, .inr (4, [.int 1, .ref (am 2), .int 1])), (am 2, .inl (cy 10, 10, .inr (.inr (.inr (.inr (va_up (fun _ => none) 0 (some (am 3)))))))), (am 3, .inr (15, [.int 104, .int 4, .int 0, .int 1, .int 0, .int 0, .int 99, .int (-1), .int 0, .int 0, .int (-1), .int 0, .int 0, .ref (am 11), .ref (am 12), .ref (am 13)])), (am 4, .inl (cy 9, 12, .inr (.inr (.inr (.inr (fun _ => none)))))), (am 5, .inr (4, [.int 0, .ref eda, .int 0])), (am 6, .inr (4, [.int 0, .ref eda, .int 0])), (am 7, .inr (4, [.int 0, .ref eda, .int 0])), (am 8, .inl (cy 0, 0, .inl (fun _ => 0))), (am 9, .inr (4, [.int 0, .ref eda, .int 0])), (am 10, .inl (cy 0, 16, .inl (f_13))), (am 11, .inl (cy 8, 4, .inr (.inr (.inr (.inr (fun _ => none)))))), (am 12, .inl (cy 1, 4, .inl (fun _ => 0))), (am 13, .inl (cy 0, 4, .inl (fun _ => 0)))]) H := hP
  have hD : va_D A ([(am 0, .inr (19, [.int 0, .ref (am 1), .ref (am 4), .ref (am 5), .ref (am 6), .ref (am 7), .ref (am 8), .int 0, .ref (am 9), .int 1, .int (-1), .int 100, .ref (am 10), .long 0, .int 0, .int 0, .int 0, .int 0, .long 0])), (am 1, .inr (4, [.int 1, .ref (am 2), .int 1])), (am 2, .inl (cy 10, 10, .inr (.inr (.inr (.inr (va_up (fun _ => none) 0 (some (am 3)))))))), (am 3, .inr (15, [.int 104, .int 4, .int 0, .int 1, .int 0, .int 0, .int 99, .int (-1), .int 0, .int 0, .int (-1), .int 0, .int 0, .ref (am 11), .ref (am 12), .ref (am 13)])), (am 4, .inl (cy 9, 12, .inr (.inr (.inr (.inr (fun _ => none)))))), (am 5, .inr (4, [.int 0, .ref eda, .int 0])), (am 6, .inr (4, [.int 0, .ref eda, .int 0])), (am 7, .inr (4, [.int 0, .ref eda, .int 0])), (am 8, .inl (cy 0, 0, .inl (fun _ => 0))), (am 9, .inr (4, [.int 0, .ref eda, .int 0])), (am 10, .inl (cy 0, 16, .inl (f_13))), (am 11, .inl (cy 8, 4, .inr (.inr (.inr (.inr (fun _ => none)))))), (am 12, .inl (cy 1, 4, .inl (fun _ => 0))), (am 13, .inl (cy 0, 4, .inl (fun _ => 0)))]) := hD
  refine lv_iinc (v := 13) (lv' := [(1, .int 13), (0, .ref (am 0))]) hx hb dX14_frame_37 hl (k := 0) rfl (by decide) (by decide) rfl (fun ls hl => ?_)
  refine lv_goto (tgt := 23) hx hb dX14_frame_40 (by decide) ?_
  refine lv_iload_n hx hb dX14_frame_23 rfl (lv_at hl 0 rfl) ?_
  refine lv_bipush (v := 16) hx hb dX14_frame_24 (by decide) ?_
  refine lv_icmp_ge (tgt := 43) hx hb dX14_frame_26 (by decide) (fun c => absurd c (by decide)) (fun _ => ?_)
  refine lv_aload_n hx hb dX14_frame_29 rfl (lv_at hl 1 rfl) ?_
  refine va_get (D := D) (ci := 19) (v := .ref (am 10)) (C := RX14) (T := TX14) (N := 19) hx hb hts iw_X14_frame_RX14 hown hK hP 0 rfl rfl 12 (by decide) (hts (.fieldLink RX14 45 "HubcascadeModel" "hubLeft" "[I") (by decide +kernel)) (fun _ h9 => h9) rfl dX14_frame_30 ?_
  refine lv_iload_n hx hb dX14_frame_33 rfl (lv_at hl 0 rfl) ?_
  refine lv_bipush (v := 60) hx hb dX14_frame_34 (by decide) ?_
  refine va_iast hx hb hK hP hD hS 10 0 rfl rfl (by unfold vp_in; decide) dX14_frame_36 (fun H locs hP hD hS => ?_)
  obtain ⟨f_14, ef_14⟩ : ∃ z, z = upd (f_13) (Int32.toNatClampNeg 13) 60 := ⟨_, rfl⟩
  rw [← ef_14] at hP hD
  have hP : va_P D vwCl ([(am 0, .inr (19, [.int 0, .ref (am 1), .ref (am 4), .ref (am 5), .ref (am 6), .ref (am 7), .ref (am 8), .int 0, .ref (am 9), .int 1, .int (-1), .int 100, .ref (am 10), .long 0, .int 0, .int 0, .int 0, .int 0, .long 0])), (am 1, .inr (4, [.int 1, .ref (am 2), .int 1])), (am 2, .inl (cy 10, 10, .inr (.inr (.inr (.inr (va_up (fun _ => none) 0 (some (am 3)))))))), (am 3, .inr (15, [.int 104, .int 4, .int 0, .int 1, .int 0, .int 0, .int 99, .int (-1), .int 0, .int 0, .int (-1), .int 0, .int 0, .ref (am 11), .ref (am 12), .ref (am 13)])), (am 4, .inl (cy 9, 12, .inr (.inr (.inr (.inr (fun _ => none)))))), (am 5, .inr (4, [.int 0, .ref eda, .int 0])), (am 6, .inr (4, [.int 0, .ref eda, .int 0])), (am 7, .inr (4, [.int 0, .ref eda, .int 0])), (am 8, .inl (cy 0, 0, .inl (fun _ => 0))), (am 9, .inr (4, [.int 0, .ref eda, .int 0])), (am 10, .inl (cy 0, 16, .inl (f_14))), (am 11, .inl (cy 8, 4, .inr (.inr (.inr (.inr (fun _ => none)))))), (am 12, .inl (cy 1, 4, .inl (fun _ => 0))), (am 13, .inl (cy 0, 4, .inl (fun _ => 0)))]) H := hP
  have hD : va_D A ([(am 0, .inr (19, [.int 0, .ref (am 1), .ref (am 4), .ref (am 5), .ref (am 6), .ref (am 7), .ref (am 8), .int 0, .ref (am 9), .int 1, .int (-1), .int 100, .ref (am 10), .long 0, .int 0, .int 0, .int 0, .int 0, .long 0])), (am 1, .inr (4, [.int 1, .ref (am 2), .int 1])), (am 2, .inl (cy 10, 10, .inr (.inr (.inr (.inr (va_up (fun _ => none) 0 (some (am 3)))))))), (am 3, .inr (15, [.int 104, .int 4, .int 0, .int 1, .int 0, .int 0, .int 99, .int (-1), .int 0, .int 0, .int (-1), .int 0, .int 0, .ref (am 11), .ref (am 12), .ref (am 13)])), (am 4, .inl (cy 9, 12, .inr (.inr (.inr (.inr (fun _ => none)))))), (am 5, .inr (4, [.int 0, .ref eda, .int 0])), (am 6, .inr (4, [.int 0, .ref eda, .int 0])), (am 7, .inr (4, [.int 0, .ref eda, .int 0])), (am 8, .inl (cy 0, 0, .inl (fun _ => 0))), (am 9, .inr (4, [.int 0, .ref eda, .int 0])), (am 10, .inl (cy 0, 16, .inl (f_14))), (am 11, .inl (cy 8, 4, .inr (.inr (.inr (.inr (fun _ => none)))))), (am 12, .inl (cy 1, 4, .inl (fun _ => 0))), (am 13, .inl (cy 0, 4, .inl (fun _ => 0)))]) := hD
  refine lv_iinc (v := 14) (lv' := [(1, .int 14), (0, .ref (am 0))]) hx hb dX14_frame_37 hl (k := 0) rfl (by decide) (by decide) rfl (fun ls hl => ?_)
  refine lv_goto (tgt := 23) hx hb dX14_frame_40 (by decide) ?_
  refine lv_iload_n hx hb dX14_frame_23 rfl (lv_at hl 0 rfl) ?_
  refine lv_bipush (v := 16) hx hb dX14_frame_24 (by decide) ?_
  refine lv_icmp_ge (tgt := 43) hx hb dX14_frame_26 (by decide) (fun c => absurd c (by decide)) (fun _ => ?_)
  refine lv_aload_n hx hb dX14_frame_29 rfl (lv_at hl 1 rfl) ?_
  refine va_get (D := D) (ci := 19) (v := .ref (am 10)) (C := RX14) (T := TX14) (N := 19) hx hb hts iw_X14_frame_RX14 hown hK hP 0 rfl rfl 12 (by decide) (hts (.fieldLink RX14 45 "HubcascadeModel" "hubLeft" "[I") (by decide +kernel)) (fun _ h9 => h9) rfl dX14_frame_30 ?_
  refine lv_iload_n hx hb dX14_frame_33 rfl (lv_at hl 0 rfl) ?_
  refine lv_bipush (v := 60) hx hb dX14_frame_34 (by decide) ?_
  refine va_iast hx hb hK hP hD hS 10 0 rfl rfl (by unfold vp_in; decide) dX14_frame_36 (fun H locs hP hD hS => ?_)
  obtain ⟨f_15, ef_15⟩ : ∃ z, z = upd (f_14) (Int32.toNatClampNeg 14) 60 := ⟨_, rfl⟩
  rw [← ef_15] at hP hD
  have hP : va_P D vwCl ([(am 0, .inr (19, [.int 0, .ref (am 1), .ref (am 4), .ref (am 5), .ref (am 6), .ref (am 7), .ref (am 8), .int 0, .ref (am 9), .int 1, .int (-1), .int 100, .ref (am 10), .long 0, .int 0, .int 0, .int 0, .int 0, .long 0])), (am 1, .inr (4, [.int 1, .ref (am 2), .int 1])), (am 2, .inl (cy 10, 10, .inr (.inr (.inr (.inr (va_up (fun _ => none) 0 (some (am 3)))))))), (am 3, .inr (15, [.int 104, .int 4, .int 0, .int 1, .int 0, .int 0, .int 99, .int (-1), .int 0, .int 0, .int (-1), .int 0, .int 0, .ref (am 11), .ref (am 12), .ref (am 13)])), (am 4, .inl (cy 9, 12, .inr (.inr (.inr (.inr (fun _ => none)))))), (am 5, .inr (4, [.int 0, .ref eda, .int 0])), (am 6, .inr (4, [.int 0, .ref eda, .int 0])), (am 7, .inr (4, [.int 0, .ref eda, .int 0])), (am 8, .inl (cy 0, 0, .inl (fun _ => 0))), (am 9, .inr (4, [.int 0, .ref eda, .int 0])), (am 10, .inl (cy 0, 16, .inl (f_15))), (am 11, .inl (cy 8, 4, .inr (.inr (.inr (.inr (fun _ => none)))))), (am 12, .inl (cy 1, 4, .inl (fun _ => 0))), (am 13, .inl (cy 0, 4, .inl (fun _ => 0)))]) H := hP
  have hD : va_D A ([(am 0, .inr (19, [.int 0, .ref (am 1), .ref (am 4), .ref (am 5), .ref (am 6), .ref (am 7), .ref (am 8), .int 0, .ref (am 9), .int 1, .int (-1), .int 100, .ref (am 10), .long 0, .int 0, .int 0, .int 0, .int 0, .long 0])), (am 1, .inr (4, [.int 1, .ref (am 2), .int 1])), (am 2, .inl (cy 10, 10, .inr (.inr (.inr (.inr (va_up (fun _ => none) 0 (some (am 3)))))))), (am 3, .inr (15, [.int 104, .int 4, .int 0, .int 1, .int 0, .int 0, .int 99, .int (-1), .int 0, .int 0, .int (-1), .int 0, .int 0, .ref (am 11), .ref (am 12), .ref (am 13)])), (am 4, .inl (cy 9, 12, .inr (.inr (.inr (.inr (fun _ => none)))))), (am 5, .inr (4, [.int 0, .ref eda, .int 0])), (am 6, .inr (4, [.int 0, .ref eda, .int 0])), (am 7, .inr (4, [.int 0, .ref eda, .int 0])), (am 8, .inl (cy 0, 0, .inl (fun _ => 0))), (am 9, .inr (4, [.int 0, .ref eda, .int 0])), (am 10, .inl (cy 0, 16, .inl (f_15))), (am 11, .inl (cy 8, 4, .inr (.inr (.inr (.inr (fun _ => none)))))), (am 12, .inl (cy 1, 4, .inl (fun _ => 0))), (am 13, .inl (cy 0, 4, .inl (fun _ => 0)))]) := hD
  refine lv_iinc (v := 15) (lv' := [(1, .int 15), (0, .ref (am 0))]) hx hb dX14_frame_37 hl (k := 0) rfl (by decide) (by decide) rfl (fun ls hl => ?_)
  refine lv_goto (tgt := 23) hx hb dX14_frame_40 (by decide) ?_
  refine lv_iload_n hx hb dX14_frame_23 rfl (lv_at hl 0 rfl) ?_
  refine lv_bipush (v := 16) hx hb dX14_frame_24 (by decide) ?_
  refine lv_icmp_ge (tgt := 43) hx hb dX14_frame_26 (by decide) (fun c => absurd c (by decide)) (fun _ => ?_)
  refine lv_aload_n hx hb dX14_frame_29 rfl (lv_at hl 1 rfl) ?_
  refine va_get (D := D) (ci := 19) (v := .ref (am 10)) (C := RX14) (T := TX14) (N := 19) hx hb hts iw_X14_frame_RX14 hown hK hP 0 rfl rfl 12 (by decide) (hts (.fieldLink RX14 45 "HubcascadeModel" "hubLeft" "[I") (by decide +kernel)) (fun _ h9 => h9) rfl dX14_frame_30 ?_
  refine lv_iload_n hx hb dX14_frame_33 rfl (lv_at hl 0 rfl) ?_
  refine lv_bipush (v := 60) hx hb dX14_frame_34 (by decide) ?_
  refine va_iast hx hb hK hP hD hS 10 0 rfl rfl (by unfold vp_in; decide) dX14_frame_36 (fun H locs hP hD hS => ?_)
  obtain ⟨f_16, ef_16⟩ : ∃ z, z = upd (f_15) (Int32.toNatClampNeg 15) 60 := ⟨_, rfl⟩
  rw [← ef_16] at hP hD
  have hP : va_P D vwCl ([(am 0, .inr (19, [.int 0, .ref (am 1), .ref (am 4), .ref (am 5), .ref (am 6), .ref (am 7), .ref (am 8), .int 0, .ref (am 9), .int 1, .int (-1), .int 100, .ref (am 10), .long 0, .int 0, .int 0, .int 0, .int 0, .long 0])), (am 1, .inr (4, [.int 1, .ref (am 2), .int 1])), (am 2, .inl (cy 10, 10, .inr (.inr (.inr (.inr (va_up (fun _ => none) 0 (some (am 3)))))))), (am 3, .inr (15, [.int 104, .int 4, .int 0, .int 1, .int 0, .int 0, .int 99, .int (-1), .int 0, .int 0, .int (-1), .int 0, .int 0, .ref (am 11), .ref (am 12), .ref (am 13)])), (am 4, .inl (cy 9, 12, .inr (.inr (.inr (.inr (fun _ => none)))))), (am 5, .inr (4, [.int 0, .ref eda, .int 0])), (am 6, .inr (4, [.int 0, .ref eda, .int 0])), (am 7, .inr (4, [.int 0, .ref eda, .int 0])), (am 8, .inl (cy 0, 0, .inl (fun _ => 0))), (am 9, .inr (4, [.int 0, .ref eda, .int 0])), (am 10, .inl (cy 0, 16, .inl (f_16))), (am 11, .inl (cy 8, 4, .inr (.inr (.inr (.inr (fun _ => none)))))), (am 12, .inl (cy 1, 4, .inl (fun _ => 0))), (am 13, .inl (cy 0, 4, .inl (fun _ => 0)))]) H := hP
  have hD : va_D A ([(am 0, .inr (19, [.int 0, .ref (am 1), .ref (am 4), .ref (am 5), .ref (am 6), .ref (am 7), .ref (am 8), .int 0, .ref (am 9), .int 1, .int (-1), .int 100, .ref (am 10), .long 0, .int 0, .int 0, .int 0, .int 0, .long 0])), (am 1, .inr (4, [.int 1, .ref (am 2), .int 1])), (am 2, .inl (cy 10, 10, .inr (.inr (.inr (.inr (va_up (fun _ => none) 0 (some (am 3)))))))), (am 3, .inr (15, [.int 104, .int 4, .int 0, .int 1, .int 0, .int 0, .int 99, .int (-1), .int 0, .int 0, .int (-1), .int 0, .int 0, .ref (am 11), .ref (am 12), .ref (am 13)])), (am 4, .inl (cy 9, 12, .inr (.inr (.inr (.inr (fun _ => none)))))), (am 5, .inr (4, [.int 0, .ref eda, .int 0])), (am 6, .inr (4, [.int 0, .ref eda, .int 0])), (am 7, .inr (4, [.int 0, .ref eda, .int 0])), (am 8, .inl (cy 0, 0, .inl (fun _ => 0))), (am 9, .inr (4, [.int 0, .ref eda, .int 0])), (am 10, .inl (cy 0, 16, .inl (f_16))), (am 11, .inl (cy 8, 4, .inr (.inr (.inr (.inr (fun _ => none)))))), (am 12, .inl (cy 1, 4, .inl (fun _ => 0))), (am 13, .inl (cy 0, 4, .inl (fun _ => 0)))]) := hD
  refine lv_iinc (v := 16) (lv' := [(1, .int 16), (0, .ref (am 0))]) hx hb dX14_frame_37 hl (k := 0) rfl (by decide) (by decide) rfl (fun ls hl => ?_)
  refine lv_goto (tgt := 23) hx hb dX14_frame_40 (by decide) ?_
  refine lv_iload_n hx hb dX14_frame_23 rfl (lv_at hl 0 rfl) ?_
  refine lv_bipush (v := 16) hx hb dX14_frame_24 (by decide) ?_
  refine lv_icmp_ge (tgt := 43) hx hb dX14_frame_26 (by decide) (fun _ => ?_) (fun c => absurd (by decide) c)
  refine lv_iconst (v := 1) hx hb dX14_frame_43 (by decide) ?_
  refine lv_istore_n (lv' := [(1, .int 1), (0, .ref (am 0))]) hx hb dX14_frame_44 rfl hl (by decide) rfl (fun ls hl => ?_)
  refine lv_iload_n hx hb dX14_frame_45 rfl (lv_at hl 0 rfl) ?_
  refine lv_aload_n hx hb dX14_frame_46 rfl (lv_at hl 1 rfl) ?_
  refine va_get (D := D) (ci := 19) (v := .ref (am 1)) (C := RX14) (T := TX14) (N := 19) hx hb hts iw_X14_frame_RX14 hown hK hP 0 rfl rfl 1 (by decide) (hts (.fieldLink RX14 10 "HubcascadeModel" "devices" "Ljava/util/ArrayList;") (by decide +kernel)) (fun _ h9 => h9) rfl dX14_frame_47 ?_
  refine ro_callV (As := []) (rest := [.int 1]) ⟨hx, hb, hml, hown, hts⟩ (c_size l D cy _ 1 (am 1) (am 2) 1 1 rfl) (cwV 0 hts gFR_size rfl rfl rfl (by decide +kernel) ⟨by decide, by decide⟩) hK hN hP hS (ci := 4) (q0 := 1) rfl rfl rfl rfl hl.1 rfl (Nat.le_of_ble_eq_true rfl) dX14_frame_50 ⟨Nat.le_of_ble_eq_true rfl, Nat.le_of_ble_eq_true rfl⟩ (fun H locs hP hS => ?_)
  refine lv_icmp_ge (tgt := 107) hx hb dX14_frame_53 (by decide) (fun _ => ?_) (fun c => absurd (by decide) c)
  refine lv_iconst (v := 0) hx hb dX14_frame_107 (by decide) ?_
  refine lv_istore_n (lv' := [(1, .int 0), (0, .ref (am 0))]) hx hb dX14_frame_108 rfl hl (by decide) rfl (fun ls hl => ?_)
  refine lv_iconst (v := 0) hx hb dX14_frame_109 (by decide) ?_
  refine lv_istore_n (lv' := [(2, .int 0), (1, .int 0), (0, .ref (am 0))]) hx hb dX14_frame_110 rfl hl (by decide) rfl (fun ls hl => ?_)
  refine lv_iload_n hx hb dX14_frame_111 rfl (lv_at hl 0 rfl) ?_
  refine lv_bipush (v := 12) hx hb dX14_frame_112 (by decide) ?_
  refine lv_icmp_ge (tgt := 185) hx hb dX14_frame_114 (by decide) (fun c => absurd c (by decide)) (fun _ => ?_)
  refine lv_aload_n hx hb dX14_frame_117 rfl (lv_at hl 2 rfl) ?_
  refine va_get (D := D) (ci := 19) (v := .ref (am 4)) (C := RX14) (T := TX14) (N := 19) hx hb hts iw_X14_frame_RX14 hown hK hP 0 rfl rfl 2 (by decide) (hts (.fieldLink RX14 18 "HubcascadeModel" "pipes" "[LHubcascadeModel$Pipe;") (by decide +kernel)) (fun _ h9 => h9) rfl dX14_frame_118 ?_
  refine lv_iload_n hx hb dX14_frame_121 rfl (lv_at hl 0 rfl) ?_
  refine my_aldN hx hb hK hP 4 9 rfl rfl (i := 0) (j := 0) (by decide) (by decide) (by decide) rfl dX14_frame_122 ?_
  refine lv_astore_nN (lv' := [(3, .null), (2, .int 0), (1, .int 0), (0, .ref (am 0))]) hx hb dX14_frame_123 rfl hl (by decide) rfl (fun ls hl => ?_)
  refine lv_aload_nN hx hb dX14_frame_124 rfl (lv_at hl 0 rfl) ?_
  refine lv_ifnullN (tgt := 155) hx hb dX14_frame_125 (by decide) ?_
  refine lv_iconst (v := 0) hx hb dX14_frame_155 (by decide) ?_
  refine lv_istore (lv' := [(4, .int 0), (3, .null), (2, .int 0), (1, .int 0), (0, .ref (am 0))]) hx hb dX14_frame_156 hl (by decide) rfl (fun ls hl => ?_)
  refine lv_iload_n hx hb dX14_frame_158 rfl (lv_at hl 3 rfl) ?_
  refine lv_iload hx hb dX14_frame_159 (lv_at hl 0 rfl) ?_
  refine lv_if_eq (tgt := 176) hx hb dX14_frame_161 (by decide) (fun _ => ?_) (fun c => absurd (by decide) c)
  refine lv_iconst (v := 0) hx hb dX14_frame_176 (by decide) ?_
  refine lv_iadd hx hb dX14_frame_177 ?_
  refine lv_topi (fun y ey => ?_)
  obtain rfl : y = 0 := ey.trans (by decide)
  refine lv_istore_n (lv' := [(1, .int 0), (4, .int 0), (3, .null), (2, .int 0), (0, .ref (am 0))]) hx hb dX14_frame_178 rfl hl (by decide) rfl (fun ls hl => ?_)
  refine lv_iinc (v := 1) (lv' := [(2, .int 1), (1, .int 0), (4, .int 0), (3, .null), (0, .ref (am 0))]) hx hb dX14_frame_179 hl (k := 3) rfl (by decide) (by decide) rfl (fun ls hl => ?_)
  refine lv_goto (tgt := 111) hx hb dX14_frame_182 (by decide) ?_
  refine lv_iload_n hx hb dX14_frame_111 rfl (lv_at hl 0 rfl) ?_
  refine lv_bipush (v := 12) hx hb dX14_frame_112 (by decide) ?_
  refine lv_icmp_ge (tgt := 185) hx hb dX14_frame_114 (by decide) (fun c => absurd c (by decide)) (fun _ => ?_)
  refine lv_aload_n hx hb dX14_frame_117 rfl (lv_at hl 4 rfl) ?_
  refine va_get (D := D) (ci := 19) (v := .ref (am 4)) (C := RX14) (T := TX14) (N := 19) hx hb hts iw_X14_frame_RX14 hown hK hP 0 rfl rfl 2 (by decide) (hts (.fieldLink RX14 18 "HubcascadeModel" "pipes" "[LHubcascadeModel$Pipe;") (by decide +kernel)) (fun _ h9 => h9) rfl dX14_frame_118 ?_
  refine lv_iload_n hx hb dX14_frame_121 rfl (lv_at hl 0 rfl) ?_
  refine my_aldN hx hb hK hP 4 9 rfl rfl (i := 1) (j := 1) (by decide) (by decide) (by decide) rfl dX14_frame_122 ?_
  refine lv_astore_nN (lv' := [(3, .null), (2, .int 1), (1, .int 0), (4, .int 0), (0, .ref (am 0))]) hx hb dX14_frame_123 rfl hl (by decide) rfl (fun ls hl => ?_)
  refine lv_aload_nN hx hb dX14_frame_124 rfl (lv_at hl 0 rfl) ?_
  refine lv_ifnullN (tgt := 155) hx hb dX14_frame_125 (by decide) ?_
  refine lv_iconst (v := 0) hx hb dX14_frame_155 (by decide) ?_
  refine lv_istore (lv' := [(4, .int 0), (3, .null), (2, .int 1), (1, .int 0), (0, .ref (am 0))]) hx hb dX14_frame_156 hl (by decide) rfl (fun ls hl => ?_)
  refine lv_iload_n hx hb dX14_frame_158 rfl (lv_at hl 3 rfl) ?_
  refine lv_iload hx hb dX14_frame_159 (lv_at hl 0 rfl) ?_
  refine lv_if_eq (tgt := 176) hx hb dX14_frame_161 (by decide) (fun _ => ?_) (fun c => absurd (by decide) c)
  refine lv_iconst (v := 0) hx hb dX14_frame_176 (by decide) ?_
  refine lv_iadd hx hb dX14_frame_177 ?_
  refine lv_topi (fun y ey => ?_)
  obtain rfl : y = 0 := ey.trans (by decide)
  refine lv_istore_n (lv' := [(1, .int 0), (4, .int 0), (3, .null), (2, .int 1), (0, .ref (am 0))]) hx hb dX14_frame_178 rfl hl (by decide) rfl (fun ls hl => ?_)
  refine lv_iinc (v := 2) (lv' := [(2, .int 2), (1, .int 0), (4, .int 0), (3, .null), (0, .ref (am 0))]) hx hb dX14_frame_179 hl (k := 3) rfl (by decide) (by decide) rfl (fun ls hl => ?_)
  refine lv_goto (tgt := 111) hx hb dX14_frame_182 (by decide) ?_
  refine lv_iload_n hx hb dX14_frame_111 rfl (lv_at hl 0 rfl) ?_
  refine lv_bipush (v := 12) hx hb dX14_frame_112 (by decide) ?_
  refine lv_icmp_ge (tgt := 185) hx hb dX14_frame_114 (by decide) (fun c => absurd c (by decide)) (fun _ => ?_)
  refine lv_aload_n hx hb dX14_frame_117 rfl (lv_at hl 4 rfl) ?_
  refine va_get (D := D) (ci := 19) (v := .ref (am 4)) (C := RX14) (T := TX14) (N := 19) hx hb hts iw_X14_frame_RX14 hown hK hP 0 rfl rfl 2 (by decide) (hts (.fieldLink RX14 18 "HubcascadeModel" "pipes" "[LHubcascadeModel$Pipe;") (by decide +kernel)) (fun _ h9 => h9) rfl dX14_frame_118 ?_
  refine lv_iload_n hx hb dX14_frame_121 rfl (lv_at hl 0 rfl) ?_
  refine my_aldN hx hb hK hP 4 9 rfl rfl (i := 2) (j := 2) (by decide) (by decide) (by decide) rfl dX14_frame_122 ?_
  refine lv_astore_nN (lv' := [(3, .null), (2, .int 2), (1, .int 0), (4, .int 0), (0, .ref (am 0))]) hx hb dX14_frame_123 rfl hl (by decide) rfl (fun ls hl => ?_)
  refine lv_aload_nN hx hb dX14_frame_124 rfl (lv_at hl 0 rfl) ?_
  refine lv_ifnullN (tgt := 155) hx hb dX14_frame_125 (by decide) ?_
  refine lv_iconst (v := 0) hx hb dX14_frame_155 (by decide) ?_
  refine lv_istore (lv' := [(4, .int 0), (3, .null), (2, .int 2), (1, .int 0), (0, .ref (am 0))]) hx hb dX14_frame_156 hl (by decide) rfl (fun ls hl => ?_)
  refine lv_iload_n hx hb dX14_frame_158 rfl (lv_at hl 3 rfl) ?_
  refine lv_iload hx hb dX14_frame_159 (lv_at hl 0 rfl) ?_
  refine lv_if_eq (tgt := 176) hx hb dX14_frame_161 (by decide) (fun _ => ?_) (fun c => absurd (by decide) c)
  refine lv_iconst (v := 0) hx hb dX14_frame_176 (by decide) ?_
  refine lv_iadd hx hb dX14_frame_177 ?_
  refine lv_topi (fun y ey => ?_)
  obtain rfl : y = 0 := ey.trans (by decide)
  refine lv_istore_n (lv' := [(1, .int 0), (4, .int 0), (3, .null), (2, .int 2), (0, .ref (am 0))]) hx hb dX14_frame_178 rfl hl (by decide) rfl (fun ls hl => ?_)
  refine lv_iinc (v := 3) (lv' := [(2, .int 3), (1, .int 0), (4, .int 0), (3, .null), (0, .ref (am 0))]) hx hb dX14_frame_179 hl (k := 3) rfl (by decide) (by decide) rfl (fun ls hl => ?_)
  refine lv_goto (tgt := 111) hx hb dX14_frame_182 (by decide) ?_
  refine lv_iload_n hx hb dX14_frame_111 rfl (lv_at hl 0 rfl) ?_
  refine lv_bipush (v := 12) hx hb dX14_frame_112 (by decide) ?_
  refine lv_icmp_ge (tgt := 185) hx hb dX14_frame_114 (by decide) (fun c => absurd c (by decide)) (fun _ => ?_)
  refine lv_aload_n hx hb dX14_frame_117 rfl (lv_at hl 4 rfl) ?_
  refine va_get (D := D) (ci := 19) (v := .ref (am 4)) (C := RX14) (T := TX14) (N := 19) hx hb hts iw_X14_frame_RX14 hown hK hP 0 rfl rfl 2 (by decide) (hts (.fieldLink RX14 18 "HubcascadeModel" "pipes" "[LHubcascadeModel$Pipe;") (by decide +kernel)) (fun _ h9 => h9) rfl dX14_frame_118 ?_
  refine lv_iload_n hx hb dX14_frame_121 rfl (lv_at hl 0 rfl) ?_
  refine my_aldN hx hb hK hP 4 9 rfl rfl (i := 3) (j := 3) (by decide) (by decide) (by decide) rfl dX14_frame_122 ?_
  refine lv_astore_nN (lv' := [(3, .null), (2, .int 3), (1, .int 0), (4, .int 0), (0, .ref (am 0))]) hx hb dX14_frame_123 rfl hl (by decide) rfl (fun ls hl => ?_)
  refine lv_aload_nN hx hb dX14_frame_124 rfl (lv_at hl 0 rfl) ?_
  refine lv_ifnullN (tgt := 155) hx hb dX14_frame_125 (by decide) ?_
  refine lv_iconst (v := 0) hx hb dX14_frame_155 (by decide) ?_
  refine lv_istore (lv' := [(4, .int 0), (3, .null), (2, .int 3), (1, .int 0), (0, .ref (am 0))]) hx hb dX14_frame_156 hl (by decide) rfl (fun ls hl => ?_)
  refine lv_iload_n hx hb dX14_frame_158 rfl (lv_at hl 3 rfl) ?_
  refine lv_iload hx hb dX14_frame_159 (lv_at hl 0 rfl) ?_
  refine lv_if_eq (tgt := 176) hx hb dX14_frame_161 (by decide) (fun _ => ?_) (fun c => absurd (by decide) c)
  refine lv_iconst (v := 0) hx hb dX14_frame_176 (by decide) ?_
  refine lv_iadd hx hb dX14_frame_177 ?_
  refine lv_topi (fun y ey => ?_)
  obtain rfl : y = 0 := ey.trans (by decide)
  refine lv_istore_n (lv' := [(1, .int 0), (4, .int 0), (3, .null), (2, .int 3), (0, .ref (am 0))]) hx hb dX14_frame_178 rfl hl (by decide) rfl (fun ls hl => ?_)
  refine lv_iinc (v := 4) (lv' := [(2, .int 4), (1, .int 0), (4, .int 0), (3, .null), (0, .ref (am 0))]) hx hb dX14_frame_179 hl (k := 3) rfl (by decide) (by decide) rfl (fun ls hl => ?_)
  refine lv_goto (tgt := 111) hx hb dX14_frame_182 (by decide) ?_
  refine lv_iload_n hx hb dX14_frame_111 rfl (lv_at hl 0 rfl) ?_
  refine lv_bipush (v := 12) hx hb dX14_frame_112 (by decide) ?_
  refine lv_icmp_ge (tgt := 185) hx hb dX14_frame_114 (by decide) (fun c => absurd c (by decide)) (fun _ => ?_)
  refine lv_aload_n hx hb dX14_frame_117 rfl (lv_at hl 4 rfl) ?_
  refine va_get (D := D) (ci := 19) (v := .ref (am 4)) (C := RX14) (T := TX14) (N := 19) hx hb hts iw_X14_frame_RX14 hown hK hP 0 rfl rfl 2 (by decide) (hts (.fieldLink RX14 18 "HubcascadeModel" "pipes" "[LHubcascadeModel$Pipe;") (by decide +kernel)) (fun _ h9 => h9) rfl dX14_frame_118 ?_
  refine lv_iload_n hx hb dX14_frame_121 rfl (lv_at hl 0 rfl) ?_
  refine my_aldN hx hb hK hP 4 9 rfl rfl (i := 4) (j := 4) (by decide) (by decide) (by decide) rfl dX14_frame_122 ?_
  refine lv_astore_nN (lv' := [(3, .null), (2, .int 4), (1, .int 0), (4, .int 0), (0, .ref (am 0))]) hx hb dX14_frame_123 rfl hl (by decide) rfl (fun ls hl => ?_)
  refine lv_aload_nN hx hb dX14_frame_124 rfl (lv_at hl 0 rfl) ?_
  refine lv_ifnullN (tgt := 155) hx hb dX14_frame_125 (by decide) ?_
  refine lv_iconst (v := 0) hx hb dX14_frame_155 (by decide) ?_
  refine lv_istore (lv' := [(4, .int 0), (3, .null), (2, .int 4), (1, .int 0), (0, .ref (am 0))]) hx hb dX14_frame_156 hl (by decide) rfl (fun ls hl => ?_)
  refine lv_iload_n hx hb dX14_frame_158 rfl (lv_at hl 3 rfl) ?_
  refine lv_iload hx hb dX14_frame_159 (lv_at hl 0 rfl) ?_
  refine lv_if_eq (tgt := 176) hx hb dX14_frame_161 (by decide) (fun _ => ?_) (fun c => absurd (by decide) c)
  refine lv_iconst (v := 0) hx hb dX14_frame_176 (by decide) ?_
  refine lv_iadd hx hb dX14_frame_177 ?_
  refine lv_topi (fun y ey => ?_)
  obtain rfl : y = 0 := ey.trans (by decide)
  refine lv_istore_n (lv' := [(1, .int 0), (4, .int 0), (3, .null), (2, .int 4), (0, .ref (am 0))]) hx hb dX14_frame_178 rfl hl (by decide) rfl (fun ls hl => ?_)
  refine lv_iinc (v := 5) (lv' := [(2, .int 5), (1, .int 0), (4, .int 0), (3, .null), (0, .ref (am 0))]) hx hb dX14_frame_179 hl (k := 3) rfl (by decide) (by decide) rfl (fun ls hl => ?_)
  refine lv_goto (tgt := 111) hx hb dX14_frame_182 (by decide) ?_
  refine lv_iload_n hx hb dX14_frame_111 rfl (lv_at hl 0 rfl) ?_
  refine lv_bipush (v := 12) hx hb dX14_frame_112 (by decide) ?_
  refine lv_icmp_ge (tgt := 185) hx hb dX14_frame_114 (by decide) (fun c => absurd c (by decide)) (fun _ => ?_)
  refine lv_aload_n hx hb dX14_frame_117 rfl (lv_at hl 4 rfl) ?_
  refine va_get (D := D) (ci := 19) (v := .ref (am 4)) (C := RX14) (T := TX14) (N := 19) hx hb hts iw_X14_frame_RX14 hown hK hP 0 rfl rfl 2 (by decide) (hts (.fieldLink RX14 18 "HubcascadeModel" "pipes" "[LHubcascadeModel$Pipe;") (by decide +kernel)) (fun _ h9 => h9) rfl dX14_frame_118 ?_
  refine lv_iload_n hx hb dX14_frame_121 rfl (lv_at hl 0 rfl) ?_
  refine my_aldN hx hb hK hP 4 9 rfl rfl (i := 5) (j := 5) (by decide) (by decide) (by decide) rfl dX14_frame_122 ?_
  refine lv_astore_nN (lv' := [(3, .null), (2, .int 5), (1, .int 0), (4, .int 0), (0, .ref (am 0))]) hx hb dX14_frame_123 rfl hl (by decide) rfl (fun ls hl => ?_)
  refine lv_aload_nN hx hb dX14_frame_124 rfl (lv_at hl 0 rfl) ?_
  refine lv_ifnullN (tgt := 155) hx hb dX14_frame_125 (by decide) ?_
  refine lv_iconst (v := 0) hx hb dX14_frame_155 (by decide) ?_
  refine lv_istore (lv' := [(4, .int 0), (3, .null), (2, .int 5), (1, .int 0), (0, .ref (am 0))]) hx hb dX14_frame_156 hl (by decide) rfl (fun ls hl => ?_)
  refine lv_iload_n hx hb dX14_frame_158 rfl (lv_at hl 3 rfl) ?_
  refine lv_iload hx hb dX14_frame_159 (lv_at hl 0 rfl) ?_
  refine lv_if_eq (tgt := 176) hx hb dX14_frame_161 (by decide) (fun _ => ?_) (fun c => absurd (by decide) c)
  refine lv_iconst (v := 0) hx hb dX14_frame_176 (by decide) ?_
  refine lv_iadd hx hb dX14_frame_177 ?_
  refine lv_topi (fun y ey => ?_)
  obtain rfl : y = 0 := ey.trans (by decide)
  refine lv_istore_n (lv' := [(1, .int 0), (4, .int 0), (3, .null), (2, .int 5), (0, .ref (am 0))]) hx hb dX14_frame_178 rfl hl (by decide) rfl (fun ls hl => ?_)
  refine lv_iinc (v := 6) (lv' := [(2, .int 6), (1, .int 0), (4, .int 0), (3, .null), (0, .ref (am 0))]) hx hb dX14_frame_179 hl (k := 3) rfl (by decide) (by decide) rfl (fun ls hl => ?_)
  refine lv_goto (tgt := 111) hx hb dX14_frame_182 (by decide) ?_
  refine lv_iload_n hx hb dX14_frame_111 rfl (lv_at hl 0 rfl) ?_
  refine lv_bipush (v := 12) hx hb dX14_frame_112 (by decide) ?_
  refine lv_icmp_ge (tgt := 185) hx hb dX14_frame_114 (by decide) (fun c => absurd c (by decide)) (fun _ => ?_)
  refine lv_aload_n hx hb dX14_frame_117 rfl (lv_at hl 4 rfl) ?_
  refine va_get (D := D) (ci := 19) (v := .ref (am 4)) (C := RX14) (T := TX14) (N := 19) hx hb hts iw_X14_frame_RX14 hown hK hP 0 rfl rfl 2 (by decide) (hts (.fieldLink RX14 18 "HubcascadeModel" "pipes" "[LHubcascadeModel$Pipe;") (by decide +kernel)) (fun _ h9 => h9) rfl dX14_frame_118 ?_
  refine lv_iload_n hx hb dX14_frame_121 rfl (lv_at hl 0 rfl) ?_
  refine my_aldN hx hb hK hP 4 9 rfl rfl (i := 6) (j := 6) (by decide) (by decide) (by decide) rfl dX14_frame_122 ?_
  refine lv_astore_nN (lv' := [(3, .null), (2, .int 6), (1, .int 0), (4, .int 0), (0, .ref (am 0))]) hx hb dX14_frame_123 rfl hl (by decide) rfl (fun ls hl => ?_)
  refine lv_aload_nN hx hb dX14_frame_124 rfl (lv_at hl 0 rfl) ?_
  refine lv_ifnullN (tgt := 155) hx hb dX14_frame_125 (by decide) ?_
  refine lv_iconst (v := 0) hx hb dX14_frame_155 (by decide) ?_
  refine lv_istore (lv' := [(4, .int 0), (3, .null), (2, .int 6), (1, .int 0), (0, .ref (am 0))]) hx hb dX14_frame_156 hl (by decide) rfl (fun ls hl => ?_)
  refine lv_iload_n hx hb dX14_frame_158 rfl (lv_at hl 3 rfl) ?_
  refine lv_iload hx hb dX14_frame_159 (lv_at hl 0 rfl) ?_
  refine lv_if_eq (tgt := 176) hx hb dX14_frame_161 (by decide) (fun _ => ?_) (fun c => absurd (by decide) c)
  refine lv_iconst (v := 0) hx hb dX14_frame_176 (by decide) ?_
  refine lv_iadd hx hb dX14_frame_177 ?_
  refine lv_topi (fun y ey => ?_)
  obtain rfl : y = 0 := ey.trans (by decide)
  refine lv_istore_n (lv' := [(1, .int 0), (4, .int 0), (3, .null), (2, .int 6), (0, .ref (am 0))]) hx hb dX14_frame_178 rfl hl (by decide) rfl (fun ls hl => ?_)
  refine lv_iinc (v := 7) (lv' := [(2, .int 7), (1, .int 0), (4, .int 0), (3, .null), (0, .ref (am 0))]) hx hb dX14_frame_179 hl (k := 3) rfl (by decide) (by decide) rfl (fun ls hl => ?_)
  refine lv_goto (tgt := 111) hx hb dX14_frame_182 (by decide) ?_
  refine lv_iload_n hx hb dX14_frame_111 rfl (lv_at hl 0 rfl) ?_
  refine lv_bipush (v := 12) hx hb dX14_frame_112 (by decide) ?_
  refine lv_icmp_ge (tgt := 185) hx hb dX14_frame_114 (by decide) (fun c => absurd c (by decide)) (fun _ => ?_)
  refine lv_aload_n hx hb dX14_frame_117 rfl (lv_at hl 4 rfl) ?_
  refine va_get (D := D) (ci := 19) (v := .ref (am 4)) (C := RX14) (T := TX14) (N := 19) hx hb hts iw_X14_frame_RX14 hown hK hP 0 rfl rfl 2 (by decide) (hts (.fieldLink RX14 18 "HubcascadeModel" "pipes" "[LHubcascadeModel$Pipe;") (by decide +kernel)) (fun _ h9 => h9) rfl dX14_frame_118 ?_
  refine lv_iload_n hx hb dX14_frame_121 rfl (lv_at hl 0 rfl) ?_
  refine my_aldN hx hb hK hP 4 9 rfl rfl (i := 7) (j := 7) (by decide) (by decide) (by decide) rfl dX14_frame_122 ?_
  refine lv_astore_nN (lv' := [(3, .null), (2, .int 7), (1, .int 0), (4, .int 0), (0, .ref (am 0))]) hx hb dX14_frame_123 rfl hl (by decide) rfl (fun ls hl => ?_)
  refine lv_aload_nN hx hb dX14_frame_124 rfl (lv_at hl 0 rfl) ?_
  refine lv_ifnullN (tgt := 155) hx hb dX14_frame_125 (by decide) ?_
  refine lv_iconst (v := 0) hx hb dX14_frame_155 (by decide) ?_
  refine lv_istore (lv' := [(4, .int 0), (3, .null), (2, .int 7), (1, .int 0), (0, .ref (am 0))]) hx hb dX14_frame_156 hl (by decide) rfl (fun ls hl => ?_)
  refine lv_iload_n hx hb dX14_frame_158 rfl (lv_at hl 3 rfl) ?_
  refine lv_iload hx hb dX14_frame_159 (lv_at hl 0 rfl) ?_
  refine lv_if_eq (tgt := 176) hx hb dX14_frame_161 (by decide) (fun _ => ?_) (fun c => absurd (by decide) c)
  refine lv_iconst (v := 0) hx hb dX14_frame_176 (by decide) ?_
  refine lv_iadd hx hb dX14_frame_177 ?_
  refine lv_topi (fun y ey => ?_)
  obtain rfl : y = 0 := ey.trans (by decide)
  refine lv_istore_n (lv' := [(1, .int 0), (4, .int 0), (3, .null), (2, .int 7), (0, .ref (am 0))]) hx hb dX14_frame_178 rfl hl (by decide) rfl (fun ls hl => ?_)
  refine lv_iinc (v := 8) (lv' := [(2, .int 8), (1, .int 0), (4, .int 0), (3, .null), (0, .ref (am 0))]) hx hb dX14_frame_179 hl (k := 3) rfl (by decide) (by decide) rfl (fun ls hl => ?_)
  refine lv_goto (tgt := 111) hx hb dX14_frame_182 (by decide) ?_
  refine lv_iload_n hx hb dX14_frame_111 rfl (lv_at hl 0 rfl) ?_
  refine lv_bipush (v := 12) hx hb dX14_frame_112 (by decide) ?_
  refine lv_icmp_ge (tgt := 185) hx hb dX14_frame_114 (by decide) (fun c => absurd c (by decide)) (fun _ => ?_)
  refine lv_aload_n hx hb dX14_frame_117 rfl (lv_at hl 4 rfl) ?_
  refine va_get (D := D) (ci := 19) (v := .ref (am 4)) (C := RX14) (T := TX14) (N := 19) hx hb hts iw_X14_frame_RX14 hown hK hP 0 rfl rfl 2 (by decide) (hts (.fieldLink RX14 18 "HubcascadeModel" "pipes" "[LHubcascadeModel$Pipe;") (by decide +kernel)) (fun _ h9 => h9) rfl dX14_frame_118 ?_
  refine lv_iload_n hx hb dX14_frame_121 rfl (lv_at hl 0 rfl) ?_
  refine my_aldN hx hb hK hP 4 9 rfl rfl (i := 8) (j := 8) (by decide) (by decide) (by decide) rfl dX14_frame_122 ?_
  refine lv_astore_nN (lv' := [(3, .null), (2, .int 8), (1, .int 0), (4, .int 0), (0, .ref (am 0))]) hx hb dX14_frame_123 rfl hl (by decide) rfl (fun ls hl => ?_)
  refine lv_aload_nN hx hb dX14_frame_124 rfl (lv_at hl 0 rfl) ?_
  refine lv_ifnullN (tgt := 155) hx hb dX14_frame_125 (by decide) ?_
  refine lv_iconst (v := 0) hx hb dX14_frame_155 (by decide) ?_
  refine lv_istore (lv' := [(4, .int 0), (3, .null), (2, .int 8), (1, .int 0), (0, .ref (am 0))]) hx hb dX14_frame_156 hl (by decide) rfl (fun ls hl => ?_)
  refine lv_iload_n hx hb dX14_frame_158 rfl (lv_at hl 3 rfl) ?_
  refine lv_iload hx hb dX14_frame_159 (lv_at hl 0 rfl) ?_
  refine lv_if_eq (tgt := 176) hx hb dX14_frame_161 (by decide) (fun _ => ?_) (fun c => absurd (by decide) c)
  refine lv_iconst (v := 0) hx hb dX14_frame_176 (by decide) ?_
  refine lv_iadd hx hb dX14_frame_177 ?_
  refine lv_topi (fun y ey => ?_)
  obtain rfl : y = 0 := ey.trans (by decide)
  refine lv_istore_n (lv' := [(1, .int 0), (4, .int 0), (3, .null), (2, .int 8), (0, .ref (am 0))]) hx hb dX14_frame_178 rfl hl (by decide) rfl (fun ls hl => ?_)
  refine lv_iinc (v := 9) (lv' := [(2, .int 9), (1, .int 0), (4, .int 0), (3, .null), (0, .ref (am 0))]) hx hb dX14_frame_179 hl (k := 3) rfl (by decide) (by decide) rfl (fun ls hl => ?_)
  refine lv_goto (tgt := 111) hx hb dX14_frame_182 (by decide) ?_
  refine lv_iload_n hx hb dX14_frame_111 rfl (lv_at hl 0 rfl) ?_
  refine lv_bipush (v := 12) hx hb dX14_frame_112 (by decide) ?_
  refine lv_icmp_ge (tgt := 185) hx hb dX14_frame_114 (by decide) (fun c => absurd c (by decide)) (fun _ => ?_)
  refine lv_aload_n hx hb dX14_frame_117 rfl (lv_at hl 4 rfl) ?_
  refine va_get (D := D) (ci := 19) (v := .ref (am 4)) (C := RX14) (T := TX14) (N := 19) hx hb hts iw_X14_frame_RX14 hown hK hP 0 rfl rfl 2 (by decide) (hts (.fieldLink RX14 18 "HubcascadeModel" "pipes" "[LHubcascadeModel$Pipe;") (by decide +kernel)) (fun _ h9 => h9) rfl dX14_frame_118 ?_
  refine lv_iload_n hx hb dX14_frame_121 rfl (lv_at hl 0 rfl) ?_
  refine my_aldN hx hb hK hP 4 9 rfl rfl (i := 9) (j := 9) (by decide) (by decide) (by decide) rfl dX14_frame_122 ?_
  refine lv_astore_nN (lv' := [(3, .null), (2, .int 9), (1, .int 0), (4, .int 0), (0, .ref (am 0))]) hx hb dX14_frame_123 rfl hl (by decide) rfl (fun ls hl => ?_)
  refine lv_aload_nN hx hb dX14_frame_124 rfl (lv_at hl 0 rfl) ?_
  refine lv_ifnullN (tgt := 155) hx hb dX14_frame_125 (by decide) ?_
  refine lv_iconst (v := 0) hx hb dX14_frame_155 (by decide) ?_
  refine lv_istore (lv' := [(4, .int 0), (3, .null), (2, .int 9), (1, .int 0), (0, .ref (am 0))]) hx hb dX14_frame_156 hl (by decide) rfl (fun ls hl => ?_)
  refine lv_iload_n hx hb dX14_frame_158 rfl (lv_at hl 3 rfl) ?_
  refine lv_iload hx hb dX14_frame_159 (lv_at hl 0 rfl) ?_
  refine lv_if_eq (tgt := 176) hx hb dX14_frame_161 (by decide) (fun _ => ?_) (fun c => absurd (by decide) c)
  refine lv_iconst (v := 0) hx hb dX14_frame_176 (by decide) ?_
  refine lv_iadd hx hb dX14_frame_177 ?_
  refine lv_topi (fun y ey => ?_)
  obtain rfl : y = 0 := ey.trans (by decide)
  refine lv_istore_n (lv' := [(1, .int 0), (4, .int 0), (3, .null), (2, .int 9), (0, .ref (am 0))]) hx hb dX14_frame_178 rfl hl (by decide) rfl (fun ls hl => ?_)
  refine lv_iinc (v := 10) (lv' := [(2, .int 10), (1, .int 0), (4, .int 0), (3, .null), (0, .ref (am 0))]) hx hb dX14_frame_179 hl (k := 3) rfl (by decide) (by decide) rfl (fun ls hl => ?_)
  refine lv_goto (tgt := 111) hx hb dX14_frame_182 (by decide) ?_
  refine lv_iload_n hx hb dX14_frame_111 rfl (lv_at hl 0 rfl) ?_
  refine lv_bipush (v := 12) hx hb dX14_frame_112 (by decide) ?_
  refine lv_icmp_ge (tgt := 185) hx hb dX14_frame_114 (by decide) (fun c => absurd c (by decide)) (fun _ => ?_)
  refine lv_aload_n hx hb dX14_frame_117 rfl (lv_at hl 4 rfl) ?_
  refine va_get (D := D) (ci := 19) (v := .ref (am 4)) (C := RX14) (T := TX14) (N := 19) hx hb hts iw_X14_frame_RX14 hown hK hP 0 rfl rfl 2 (by decide) (hts (.fieldLink RX14 18 "HubcascadeModel" "pipes" "[LHubcascadeModel$Pipe;") (by decide +kernel)) (fun _ h9 => h9) rfl dX14_frame_118 ?_
  refine lv_iload_n hx hb dX14_frame_121 rfl (lv_at hl 0 rfl) ?_
  refine my_aldN hx hb hK hP 4 9 rfl rfl (i := 10) (j := 10) (by decide) (by decide) (by decide) rfl dX14_frame_122 ?_
  refine lv_astore_nN (lv' := [(3, .null), (2, .int 10), (1, .int 0), (4, .int 0), (0, .ref (am 0))]) hx hb dX14_frame_123 rfl hl (by decide) rfl (fun ls hl => ?_)
  refine lv_aload_nN hx hb dX14_frame_124 rfl (lv_at hl 0 rfl) ?_
  refine lv_ifnullN (tgt := 155) hx hb dX14_frame_125 (by decide) ?_
  refine lv_iconst (v := 0) hx hb dX14_frame_155 (by decide) ?_
  refine lv_istore (lv' := [(4, .int 0), (3, .null), (2, .int 10), (1, .int 0), (0, .ref (am 0))]) hx hb dX14_frame_156 hl (by decide) rfl (fun ls hl => ?_)
  refine lv_iload_n hx hb dX14_frame_158 rfl (lv_at hl 3 rfl) ?_
  refine lv_iload hx hb dX14_frame_159 (lv_at hl 0 rfl) ?_
  refine lv_if_eq (tgt := 176) hx hb dX14_frame_161 (by decide) (fun _ => ?_) (fun c => absurd (by decide) c)
  refine lv_iconst (v := 0) hx hb dX14_frame_176 (by decide) ?_
  refine lv_iadd hx hb dX14_frame_177 ?_
  refine lv_topi (fun y ey => ?_)
  obtain rfl : y = 0 := ey.trans (by decide)
  refine lv_istore_n (lv' := [(1, .int 0), (4, .int 0), (3, .null), (2, .int 10), (0, .ref (am 0))]) hx hb dX14_frame_178 rfl hl (by decide) rfl (fun ls hl => ?_)
  refine lv_iinc (v := 11) (lv' := [(2, .int 11), (1, .int 0), (4, .int 0), (3, .null), (0, .ref (am 0))]) hx hb dX14_frame_179 hl (k := 3) rfl (by decide) (by decide) rfl (fun ls hl => ?_)
  refine lv_goto (tgt := 111) hx hb dX14_frame_182 (by decide) ?_
  refine lv_iload_n hx hb dX14_frame_111 rfl (lv_at hl 0 rfl) ?_
  refine lv_bipush (v := 12) hx hb dX14_frame_112 (by decide) ?_
  refine lv_icmp_ge (tgt := 185) hx hb dX14_frame_114 (by decide) (fun c => absurd c (by decide)) (fun _ => ?_)
  refine lv_aload_n hx hb dX14_frame_117 rfl (lv_at hl 4 rfl) ?_
  refine va_get (D := D) (ci := 19) (v := .ref (am 4)) (C := RX14) (T := TX14) (N := 19) hx hb hts iw_X14_frame_RX14 hown hK hP 0 rfl rfl 2 (by decide) (hts (.fieldLink RX14 18 "HubcascadeModel" "pipes" "[LHubcascadeModel$Pipe;") (by decide +kernel)) (fun _ h9 => h9) rfl dX14_frame_118 ?_
  refine lv_iload_n hx hb dX14_frame_121 rfl (lv_at hl 0 rfl) ?_
  refine my_aldN hx hb hK hP 4 9 rfl rfl (i := 11) (j := 11) (by decide) (by decide) (by decide) rfl dX14_frame_122 ?_
  refine lv_astore_nN (lv' := [(3, .null), (2, .int 11), (1, .int 0), (4, .int 0), (0, .ref (am 0))]) hx hb dX14_frame_123 rfl hl (by decide) rfl (fun ls hl => ?_)
  refine lv_aload_nN hx hb dX14_frame_124 rfl (lv_at hl 0 rfl) ?_
  refine lv_ifnullN (tgt := 155) hx hb dX14_frame_125 (by decide) ?_
  refine lv_iconst (v := 0) hx hb dX14_frame_155 (by decide) ?_
  refine lv_istore (lv' := [(4, .int 0), (3, .null), (2, .int 11), (1, .int 0), (0, .ref (am 0))]) hx hb dX14_frame_156 hl (by decide) rfl (fun ls hl => ?_)
  refine lv_iload_n hx hb dX14_frame_158 rfl (lv_at hl 3 rfl) ?_
  refine lv_iload hx hb dX14_frame_159 (lv_at hl 0 rfl) ?_
  refine lv_if_eq (tgt := 176) hx hb dX14_frame_161 (by decide) (fun _ => ?_) (fun c => absurd (by decide) c)
  refine lv_iconst (v := 0) hx hb dX14_frame_176 (by decide) ?_
  refine lv_iadd hx hb dX14_frame_177 ?_
  refine lv_topi (fun y ey => ?_)
  obtain rfl : y = 0 := ey.trans (by decide)
  refine lv_istore_n (lv' := [(1, .int 0), (4, .int 0), (3, .null), (2, .int 11), (0, .ref (am 0))]) hx hb dX14_frame_178 rfl hl (by decide) rfl (fun ls hl => ?_)
  refine lv_iinc (v := 12) (lv' := [(2, .int 12), (1, .int 0), (4, .int 0), (3, .null), (0, .ref (am 0))]) hx hb dX14_frame_179 hl (k := 3) rfl (by decide) (by decide) rfl (fun ls hl => ?_)
  refine lv_goto (tgt := 111) hx hb dX14_frame_182 (by decide) ?_
  refine lv_iload_n hx hb dX14_frame_111 rfl (lv_at hl 0 rfl) ?_
  refine lv_bipush (v := 12) hx hb dX14_frame_112 (by decide) ?_
  refine lv_icmp_ge (tgt := 185) hx hb dX14_frame_114 (by decide) (fun _ => ?_) (fun c => absurd (by decide) c)
  refine lv_iload_n hx hb dX14_frame_185 rfl (lv_at hl 1 rfl) ?_
  refine lv_aload_n hx hb dX14_frame_186 rfl (lv_at hl 4 rfl) ?_
  have hP := hP.sub (ws' := [(am 1, .inr (4, [.int 1, .ref (am 2), .int 1])), (am 2, .inl (cy 10, 10, .inr (.inr (.inr (.inr (va_up (fun _ => none) 0 (some (am 3)))))))), (am 3, .inr (15, [.int 104, .int 4, .int 0, .int 1, .int 0, .int 0, .int 99, .int (-1), .int 0, .int 0, .int (-1), .int 0, .int 0, .ref (am 11), .ref (am 12), .ref (am 13)])), (am 5, .inr (4, [.int 0, .ref eda, .int 0])), (am 6, .inr (4, [.int 0, .ref eda, .int 0])), (am 7, .inr (4, [.int 0, .ref eda, .int 0])), (am 8, .inl (cy 0, 0, .inl (fun _ => 0))), (am 9, .inr (4, [.int 0, .ref eda, .int 0])), (am 10, .inl (cy 0, 16, .inl (f_16))), (am 11, .inl (cy 8, 4, .inr (.inr (.inr (.inr (fun _ => none)))))), (am 12, .inl (cy 1, 4, .inl (fun _ => 0))), (am 13, .inl (cy 0, 4, .inl (fun _ => 0))), (am 0, .inr (19, [.int 0, .ref (am 1), .ref (am 4), .ref (am 5), .ref (am 6), .ref (am 7), .ref (am 8), .int 0, .ref (am 9), .int 1, .int (-1), .int 100, .ref (am 10), .long 0, .int 0, .int 0, .int 0, .int 0, .long 0])), (am 4, .inl (cy 9, 12, .inr (.inr (.inr (.inr (fun _ => none))))))]) [1, 2, 3, 5, 6, 7, 8, 9, 10, 11, 12, 13, 0, 4] rfl
  have hD := hD.sub (ws' := [(am 1, .inr (4, [.int 1, .ref (am 2), .int 1])), (am 2, .inl (cy 10, 10, .inr (.inr (.inr (.inr (va_up (fun _ => none) 0 (some (am 3)))))))), (am 3, .inr (15, [.int 104, .int 4, .int 0, .int 1, .int 0, .int 0, .int 99, .int (-1), .int 0, .int 0, .int (-1), .int 0, .int 0, .ref (am 11), .ref (am 12), .ref (am 13)])), (am 5, .inr (4, [.int 0, .ref eda, .int 0])), (am 6, .inr (4, [.int 0, .ref eda, .int 0])), (am 7, .inr (4, [.int 0, .ref eda, .int 0])), (am 8, .inl (cy 0, 0, .inl (fun _ => 0))), (am 9, .inr (4, [.int 0, .ref eda, .int 0])), (am 10, .inl (cy 0, 16, .inl (f_16))), (am 11, .inl (cy 8, 4, .inr (.inr (.inr (.inr (fun _ => none)))))), (am 12, .inl (cy 1, 4, .inl (fun _ => 0))), (am 13, .inl (cy 0, 4, .inl (fun _ => 0))), (am 0, .inr (19, [.int 0, .ref (am 1), .ref (am 4), .ref (am 5), .ref (am 6), .ref (am 7), .ref (am 8), .int 0, .ref (am 9), .int 1, .int (-1), .int 100, .ref (am 10), .long 0, .int 0, .int 0, .int 0, .int 0, .long 0])), (am 4, .inl (cy 9, 12, .inr (.inr (.inr (.inr (fun _ => none))))))]) [1, 2, 3, 5, 6, 7, 8, 9, 10, 11, 12, 13, 0, 4] (by decide) rfl
  refine me_callV (wr := [(am 1, .inr (4, [.int 1, .ref (am 2), .int 1])), (am 2, .inl (cy 10, 10, .inr (.inr (.inr (.inr (va_up (fun _ => none) 0 (some (am 3)))))))), (am 3, .inr (15, [.int 104, .int 4, .int 0, .int 1, .int 0, .int 0, .int 99, .int (-1), .int 0, .int 0, .int (-1), .int 0, .int 0, .ref (am 11), .ref (am 12), .ref (am 13)])), (am 5, .inr (4, [.int 0, .ref eda, .int 0])), (am 6, .inr (4, [.int 0, .ref eda, .int 0])), (am 7, .inr (4, [.int 0, .ref eda, .int 0])), (am 8, .inl (cy 0, 0, .inl (fun _ => 0))), (am 9, .inr (4, [.int 0, .ref eda, .int 0])), (am 10, .inl (cy 0, 16, .inl (f_16))), (am 11, .inl (cy 8, 4, .inr (.inr (.inr (.inr (fun _ => none)))))), (am 12, .inl (cy 1, 4, .inl (fun _ => 0))), (am 13, .inl (cy 0, 4, .inl (fun _ => 0)))]) (wc := [(am 0, .inr (19, [.int 0, .ref (am 1), .ref (am 4), .ref (am 5), .ref (am 6), .ref (am 7), .ref (am 8), .int 0, .ref (am 9), .int 1, .int (-1), .int 100, .ref (am 10), .long 0, .int 0, .int 0, .int 0, .int 0, .long 0])), (am 4, .inl (cy 9, 12, .inr (.inr (.inr (.inr (fun _ => none))))))]) (As := []) (rest := [.int 0]) ⟨hx, hb, hml, hown, hts⟩ (m_bulk l D cy  _  ) (cwV 0 hts gFR_bulk rfl rfl rfl (by decide +kernel) ⟨by decide, by decide⟩) hK hN hP hD hS hA (ci := 19) (q0 := 0) rfl rfl rfl rfl hl.1 rfl (Nat.le_of_ble_eq_true rfl) dX14_frame_187 ⟨Nat.le_of_ble_eq_true rfl, Nat.le_of_ble_eq_true rfl⟩ (fun H locs hB hJ hS => ?_)
  obtain ⟨hP1, hD1⟩ := hB
  obtain ⟨hP, hD⟩ := hJ _ hP1 hD1
  have hP : va_P D vwCl ([(am 1, .inr (4, [.int 1, .ref (am 2), .int 1])), (am 2, .inl (cy 10, 10, .inr (.inr (.inr (.inr (va_up (fun _ => none) 0 (some (am 3)))))))), (am 3, .inr (15, [.int 104, .int 4, .int 0, .int 1, .int 0, .int 0, .int 99, .int (-1), .int 0, .int 0, .int (-1), .int 0, .int 0, .ref (am 11), .ref (am 12), .ref (am 13)])), (am 5, .inr (4, [.int 0, .ref eda, .int 0])), (am 6, .inr (4, [.int 0, .ref eda, .int 0])), (am 7, .inr (4, [.int 0, .ref eda, .int 0])), (am 8, .inl (cy 0, 0, .inl (fun _ => 0))), (am 9, .inr (4, [.int 0, .ref eda, .int 0])), (am 10, .inl (cy 0, 16, .inl (f_16))), (am 11, .inl (cy 8, 4, .inr (.inr (.inr (.inr (fun _ => none)))))), (am 12, .inl (cy 1, 4, .inl (fun _ => 0))), (am 13, .inl (cy 0, 4, .inl (fun _ => 0))), (am 0, .inr (19, [.int 0, .ref (am 1), .ref (am 4), .ref (am 5), .ref (am 6), .ref (am 7), .ref (am 8), .int 0, .ref (am 9), .int 1, .int (-1), .int 100, .ref (am 10), .long 0, .int 0, .int 0, .int 0, .int 0, .long 0])), (am 4, .inl (cy 9, 12, .inr (.inr (.inr (.inr (fun _ => none))))))]) H := hP
  have hD : va_D A ([(am 1, .inr (4, [.int 1, .ref (am 2), .int 1])), (am 2, .inl (cy 10, 10, .inr (.inr (.inr (.inr (va_up (fun _ => none) 0 (some (am 3)))))))), (am 3, .inr (15, [.int 104, .int 4, .int 0, .int 1, .int 0, .int 0, .int 99, .int (-1), .int 0, .int 0, .int (-1), .int 0, .int 0, .ref (am 11), .ref (am 12), .ref (am 13)])), (am 5, .inr (4, [.int 0, .ref eda, .int 0])), (am 6, .inr (4, [.int 0, .ref eda, .int 0])), (am 7, .inr (4, [.int 0, .ref eda, .int 0])), (am 8, .inl (cy 0, 0, .inl (fun _ => 0))), (am 9, .inr (4, [.int 0, .ref eda, .int 0])), (am 10, .inl (cy 0, 16, .inl (f_16))), (am 11, .inl (cy 8, 4, .inr (.inr (.inr (.inr (fun _ => none)))))), (am 12, .inl (cy 1, 4, .inl (fun _ => 0))), (am 13, .inl (cy 0, 4, .inl (fun _ => 0))), (am 0, .inr (19, [.int 0, .ref (am 1), .ref (am 4), .ref (am 5), .ref (am 6), .ref (am 7), .ref (am 8), .int 0, .ref (am 9), .int 1, .int (-1), .int 100, .ref (am 10), .long 0, .int 0, .int 0, .int 0, .int 0, .long 0])), (am 4, .inl (cy 9, 12, .inr (.inr (.inr (.inr (fun _ => none))))))]) := hD
  refine lv_iadd hx hb dX14_frame_190 ?_
  refine lv_topi (fun y ey => ?_)
  obtain rfl : y = 0 := ey.trans (by decide)
  refine W.widen (k := 0) (n := 0) (Nat.le_of_ble_eq_true rfl) (Nat.le_of_ble_eq_true rfl) ?_
  have hP9 := hP.sub (ws' := [(am 0, .inr (19, [.int 0, .ref (am 1), .ref (am 4), .ref (am 5), .ref (am 6), .ref (am 7), .ref (am 8), .int 0, .ref (am 9), .int 1, .int (-1), .int 100, .ref (am 10), .long 0, .int 0, .int 0, .int 0, .int 0, .long 0]))]) [12] rfl
  have hD9 := hD.sub (ws' := [(am 0, .inr (19, [.int 0, .ref (am 1), .ref (am 4), .ref (am 5), .ref (am 6), .ref (am 7), .ref (am 8), .int 0, .ref (am 9), .int 1, .int (-1), .int 100, .ref (am 10), .long 0, .int 0, .int 0, .int 0, .int 0, .long 0]))]) [12] (by decide) rfl
  exact W.iret hx hb hr (fun t ht hW => ⟨rfl, ⟨by rw [ht]; exact hP9, hD9⟩, hS.F ht⟩) hS.2.2 dX14_frame_191
