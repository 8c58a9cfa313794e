section MYL
variable {p : Program} {l : Launch} {e : Env} {R : Room} {s : State} {m : MethodId} {args : Array Value} {below : List Frame} {meth : Method} {c : Code} {cells slots : Nat} {Q : State → Prop}
variable {D : va_G} {w : va_W} {A0 : Nat → Prop} {H0 : Heap}
/-- a loop that only reads: its counter goes from i0 to N -/
theorem ro_loop (N i0 : Nat) (LV : Nat → List (Nat × Value)) {h nL : Nat}
    (step : ∀ i : Nat, i0 ≤ i → i ≤ N → (i < N → ∀ (H : Heap) (locs : List Loc) (ls : Array Slot), va_P D vwCl w H → va_S A0 H0 H locs → lv_has ls nL (LV (i + 1)) → W p l e R s m args below meth c H locs cells slots Q (F0 m h ls [])) → ∀ (H : Heap) (locs : List Loc) (ls : Array Slot), va_P D vwCl w H → va_S A0 H0 H locs → lv_has ls nL (LV i) → W p l e R s m args below meth c H locs cells slots Q (F0 m h ls []))
    (hi0 : i0 ≤ N) {H : Heap} {locs : List Loc} {ls : Array Slot} (hP : va_P D vwCl w H) (hS : va_S A0 H0 H locs) (hl : lv_has ls nL (LV i0)) : W p l e R s m args below meth c H locs cells slots Q (F0 m h ls []) := by
  suffices K : ∀ (n i : Nat), N - i = n → i0 ≤ i → i ≤ N → ∀ (H : Heap) (locs : List Loc) (ls : Array Slot), va_P D vwCl w H → va_S A0 H0 H locs → lv_has ls nL (LV i) → W p l e R s m args below meth c H locs cells slots Q (F0 m h ls []) from K _ i0 rfl (Nat.le_refl _) hi0 H locs ls hP hS hl
  intro n
  induction n with
  | zero =>
    intro i h1 h2 h3 H locs ls hP hS hl
    exact step i h2 h3 (fun z => absurd z (by omega)) H locs ls hP hS hl
  | succ n ih =>
    intro i h1 h2 h3 H locs ls hP hS hl
    exact step i h2 h3 (fun z => ih (i + 1) (by omega) (by omega) z) H locs ls hP hS hl
end MYL
theorem my_exit {i N : Nat} {c : Int32} (hc : c = nI N) (hN : N < 2 ^ 31) (hi : i ≤ N) (h : c ≤ nI i) : i = N := by
  subst hc
  rcases Nat.lt_or_ge i N with q | q
  · exact absurd h (nI_ge q hN)
  · omega
theorem my_cont {i N : Nat} {c : Int32} (hc : c = nI N) (hN : N < 2 ^ 31) (hi : i ≤ N) (h : ¬ c ≤ nI i) : i < N := by
  subst hc
  rcases Nat.lt_or_ge i N with q | q
  · exact q
  · exact absurd (nI_le q (by omega)) h
theorem my_exitgt {i N : Nat} {c : Int32} (hc : c = nI N) (hN : N + 1 < 2 ^ 31) (hi : i ≤ N + 1) (h : c < nI i) : i = N + 1 := by
  subst hc
  rcases Nat.lt_or_ge N i with q | q
  · omega
  · exact absurd h (nI_nlt q (by omega))
theorem my_contgt {i N : Nat} {c : Int32} (hc : c = nI N) (hN : N + 1 < 2 ^ 31) (hi : i ≤ N + 1) (h : ¬ c < nI i) : i < N + 1 := by
  subst hc
  rcases Nat.lt_or_ge N i with q | q
  · exact absurd (nI_lt q (by omega)) h
  · omega
/-- one bit through the five-bit check -/
def ck5 (c b : Int32) : Int32 := if (c >>> ((4 : Int32) &&& 31)) &&& 1 = b then (c <<< ((1 : Int32) &&& 31)) &&& 31 else ((c <<< ((1 : Int32) &&& 31)) &&& 31) ^^^ 5
/-- the check behind k bits of b -/
def ck5s (b : Int32) : Nat → Int32
  | 0 => 31
  | k + 1 => ck5 (ck5s b k) ((b >>> (nI k &&& 31)) &&& 1)
theorem my_nlt0 {a : Int32} (h : ¬ 0 < a) : a ≤ 0 := by
  rw [Int32.lt_iff_toInt_lt] at h
  rw [Int32.le_iff_toInt_le]
  omega

theorem iw_X9_firstNewDevice_RX1 : ∀ w ∈ u_ws RX1 TX1 20, w ∈ wsX9_firstNewDevice := by decide +kernel
theorem iw_X9_firstNewDevice_RX9 : ∀ w ∈ u_ws RX9 TX9 13, w ∈ wsX9_firstNewDevice := by decide +kernel
set_option maxRecDepth 100000 in
set_option maxHeartbeats 4000000 in
theorem c_firstNew (l : Launch) (D : va_G) (cy : Nat → ClassId) {ad : Nat → Nat} {rw_ : Nat → Nat → Option Nat} {w : va_W} (F : FrC cy ad rw_ w) : RO l D cy w yX9_firstNewDevice wsX9_firstNewDevice 0 0 [.ref (ad 0)] (some (.null)) := by
  refine ro_ofW (cc := cX9_firstNewDevice) (maxL := 5) (ret := (some (.object "Hubcascade$Device"))) (lv := [(0, .ref (ad 0))]) (by decide) rfl (Nat.le_of_ble_eq_true rfl) rfl ?_
  intro p e s m below meth c ls hx hb hr hml hown hlocks hname hts hv hl
  have hown : s.vm.findClass RX9 = some m.cls := hown
  obtain ⟨hP, hK, hN⟩ := hv
  have hS : va_S (fun _ => False) s.heap s.heap [] := va_S.rf
  refine lv_null hx hb dX9_firstNewDevice_0 ?_
  refine lv_astore_nN (lv' := [(1, .null), (0, .ref (ad 0))]) hx hb dX9_firstNewDevice_1 rfl hl (by decide) rfl (fun ls hl => ?_)
  refine lv_iconst (v := 0) hx hb dX9_firstNewDevice_2 (by decide) ?_
  refine lv_istore_n (lv' := [(2, .int 0), (1, .null), (0, .ref (ad 0))]) hx hb dX9_firstNewDevice_3 rfl hl (by decide) rfl (fun ls hl => ?_)
  refine ro_loop (w := w) 16 0 (fun i => [(2, .int (nI i)), (1, .null), (0, .ref (ad 0))]) ?_ (by decide) hP hS (lv_sub hl [0, 1, 2] rfl)
  intro i hi0 hi ih_i H locs ls hP hS hl
  rcases Nat.eq_zero_or_pos i with rfl | hi1
  · refine lv_iload_n hx hb dX9_firstNewDevice_4 rfl (lv_at hl 0 rfl) ?_
    refine lv_bipush (v := 16) hx hb dX9_firstNewDevice_5 (by decide) ?_
    refine lv_icmp_ge (tgt := 80) hx hb dX9_firstNewDevice_7 (by decide) (fun c => absurd c (by decide)) (fun _ => ?_)
    refine lv_aload_n hx hb dX9_firstNewDevice_10 rfl (lv_at hl 2 rfl) ?_
    obtain ⟨k_1, hk_1⟩ := frc_hub F
    refine va_get (D := D) (ci := 14) (v := .ref (ad 1)) (C := RX9) (T := TX9) (N := 13) hx hb hts iw_X9_firstNewDevice_RX9 hown hK hP k_1 hk_1 rfl 0 (by decide) (hts (.fieldLink RX9 11 "Hubcascade" "devices" "[LHubcascade$Device;") (by decide +kernel)) (fun _ h9 => h9) rfl dX9_firstNewDevice_11 ?_
    refine lv_iload_n hx hb dX9_firstNewDevice_14 rfl (lv_at hl 0 rfl) ?_
    obtain ⟨k_2, hk_2⟩ := frc_dv F
    refine my_ald hx hb hK hP k_2 4 hk_2 rfl (i := 0) (j := 0) (r := ad 100) (by decide) (by decide) (by decide) (frc_dvr F 0 (by decide)) dX9_firstNewDevice_15 ?_
    refine lv_astore_n (lv' := [(3, .ref (ad 100)), (2, .int 0), (1, .null), (0, .ref (ad 0))]) hx hb dX9_firstNewDevice_16 rfl hl (by decide) rfl (fun ls hl => ?_)
    refine lv_aload_n hx hb dX9_firstNewDevice_17 rfl (lv_at hl 0 rfl) ?_
    obtain ⟨k_3, hk_3⟩ := frc_d0 F
    refine va_getN (D := D) (ci := 6) (v := .int 99) (C := RX1) (T := TX1) (N := 20) hx hb hts iw_X9_firstNewDevice_RX1 hown hK hP k_3 hk_3 rfl 7 (by decide) (va_Nw.use rfl (hN.1 _ nf_38)) (fun _ h9 => h9) rfl dX9_firstNewDevice_18 ?_
    refine lv_bipush (v := 110) hx hb dX9_firstNewDevice_21 (by decide) ?_
    refine lv_icmp_ne (tgt := 49) hx hb dX9_firstNewDevice_23 (by decide) (fun _ => ?_) (fun c => absurd c (by decide))
    refine lv_iconst (v := 0) hx hb dX9_firstNewDevice_49 (by decide) ?_
    refine lv_istore (lv' := [(4, .int 0), (3, .ref (ad 100)), (2, .int 0), (1, .null), (0, .ref (ad 0))]) hx hb dX9_firstNewDevice_50 hl (by decide) rfl (fun ls hl => ?_)
    refine lv_iload hx hb dX9_firstNewDevice_52 (lv_at hl 0 rfl) ?_
    refine lv_if_eq (tgt := 74) hx hb dX9_firstNewDevice_54 (by decide) (fun _ => ?_) (fun c => absurd (by decide) c)
    refine lv_iinc (v := 1) (lv' := [(2, .int 1), (4, .int 0), (3, .ref (ad 100)), (1, .null), (0, .ref (ad 0))]) hx hb dX9_firstNewDevice_74 hl (k := 2) rfl (by decide) (by decide) rfl (fun ls hl => ?_)
    refine lv_goto (tgt := 4) hx hb dX9_firstNewDevice_77 (by decide) ?_
    exact ih_i (by decide) _ _ _ hP hS (lv_sub hl [0, 3, 4] rfl)
  · refine lv_iload_n hx hb dX9_firstNewDevice_4 rfl (lv_at hl 0 rfl) ?_
    refine lv_bipush (v := 16) hx hb dX9_firstNewDevice_5 (by decide) ?_
    refine lv_icmp_ge (tgt := 80) hx hb dX9_firstNewDevice_7 (by decide) (fun c7 => ?_) (fun c7 => ?_)
    · obtain rfl : i = 16 := my_exit (N := 16) (by decide) (by decide) hi c7
      refine lv_aload_nN hx hb dX9_firstNewDevice_80 rfl (lv_at hl 1 rfl) ?_
      exact W.aret hx hb hr (Or.inl ⟨_, rfl⟩) (Or.inl rfl) (fun t ht hW => ⟨rfl, hS.F ht⟩) hS.2.2 dX9_firstNewDevice_81
    · have hi : i < 16 := my_cont (N := 16) (by decide) (by decide) hi c7
      refine lv_aload_n hx hb dX9_firstNewDevice_10 rfl (lv_at hl 2 rfl) ?_
      obtain ⟨k_4, hk_4⟩ := frc_hub F
      refine va_get (D := D) (ci := 14) (v := .ref (ad 1)) (C := RX9) (T := TX9) (N := 13) hx hb hts iw_X9_firstNewDevice_RX9 hown hK hP k_4 hk_4 rfl 0 (by decide) (hts (.fieldLink RX9 11 "Hubcascade" "devices" "[LHubcascade$Device;") (by decide +kernel)) (fun _ h9 => h9) rfl dX9_firstNewDevice_11 ?_
      refine lv_iload_n hx hb dX9_firstNewDevice_14 rfl (lv_at hl 0 rfl) ?_
      obtain ⟨k_5, hk_5⟩ := frc_dv F
      refine my_ald hx hb hK hP k_5 4 hk_5 rfl (i := nI i) (j := i) (r := ad (100 + i)) rfl hi (by decide) (frc_dvr F i hi) dX9_firstNewDevice_15 ?_
      refine lv_astore_n (lv' := [(3, .ref (ad (100 + i))), (2, .int (nI i)), (1, .null), (0, .ref (ad 0))]) hx hb dX9_firstNewDevice_16 rfl hl (by decide) rfl (fun ls hl => ?_)
      refine lv_aload_n hx hb dX9_firstNewDevice_17 rfl (lv_at hl 0 rfl) ?_
      obtain ⟨k_6, hk_6⟩ := frc_di F i hi1 hi
      refine va_getN (D := D) (ci := 6) (v := .int 117) (C := RX1) (T := TX1) (N := 20) hx hb hts iw_X9_firstNewDevice_RX1 hown hK hP k_6 hk_6 rfl 7 (by decide) (va_Nw.use rfl (hN.1 _ nf_38)) (fun _ h9 => h9) rfl dX9_firstNewDevice_18 ?_
      refine lv_bipush (v := 110) hx hb dX9_firstNewDevice_21 (by decide) ?_
      refine lv_icmp_ne (tgt := 49) hx hb dX9_firstNewDevice_23 (by decide) (fun _ => ?_) (fun c => absurd c (by decide))
      refine lv_iconst (v := 0) hx hb dX9_firstNewDevice_49 (by decide) ?_
      refine lv_istore (lv' := [(4, .int 0), (3, .ref (ad (100 + i))), (2, .int (nI i)), (1, .null), (0, .ref (ad 0))]) hx hb dX9_firstNewDevice_50 hl (by decide) rfl (fun ls hl => ?_)
      refine lv_iload hx hb dX9_firstNewDevice_52 (lv_at hl 0 rfl) ?_
      refine lv_if_eq (tgt := 74) hx hb dX9_firstNewDevice_54 (by decide) (fun _ => ?_) (fun c => absurd (by decide) c)
      refine lv_iinc (v := nI (i + 1)) (lv' := [(2, .int (nI (i + 1))), (4, .int 0), (3, .ref (ad (100 + i))), (1, .null), (0, .ref (ad 0))]) hx hb dX9_firstNewDevice_74 hl (k := 2) rfl (nI_1 _) (by decide) rfl (fun ls hl => ?_)
      refine lv_goto (tgt := 4) hx hb dX9_firstNewDevice_77 (by decide) ?_
      exact ih_i hi _ _ _ hP hS (lv_sub hl [0, 3, 4] rfl)

set_option maxRecDepth 100000 in
set_option maxHeartbeats 4000000 in
theorem c_look_x1 (l : Launch) (D : va_G) (cy : Nat → ClassId) {ad : Nat → Nat} {rw_ : Nat → Nat → Option Nat} {w : va_W} (F : FrC cy ad rw_ w) (hst : l.stackTraces = false) : TH l D cy w yX9_look wsX9_look 6 82 [.ref (ad 0)] "java/util/NoSuchElementException" := by
  refine th_ofW (cc := cX9_look) (maxL := 2) (ret := (some .int)) (lv := [(0, .ref (ad 0))]) (by decide) rfl (Nat.le_of_ble_eq_true rfl) rfl ?_
  intro p e s m below meth c ls hx hb hr hml hown hlocks hout hts hv hl
  have hown : s.vm.findClass RX9 = some m.cls := hown
  obtain ⟨⟨hP, hK, hN⟩, hT⟩ := hv
  have hS : va_S (fun _ => False) s.heap s.heap [] := va_S.rf
  refine lv_aload_n hx hb dX9_look_0 rfl (lv_at hl 0 rfl) ?_
  obtain ⟨k_1, hk_1⟩ := frc_hub F
  refine ro_callV (As := []) (rest := []) ⟨hx, hb, hml, hown, hts⟩ (c_firstNew l D cy F) (cwV 0 hts gX9_look_X9_firstNewDevice rfl rfl rfl (by decide +kernel) ⟨by decide, by decide⟩) hK hN hP hS (ci := 14) rfl hk_1 rfl rfl hl.1 rfl (Nat.le_of_ble_eq_true rfl) dX9_look_1 ⟨Nat.le_of_ble_eq_true rfl, Nat.le_of_ble_eq_true rfl⟩ (fun H locs hP hS => ?_)
  refine lv_astore_nN (lv' := [(1, .null), (0, .ref (ad 0))]) hx hb dX9_look_4 rfl hl (by decide) rfl (fun ls hl => ?_)
  refine lv_aload_nN hx hb dX9_look_5 rfl (lv_at hl 0 rfl) ?_
  refine lv_ifnonnullN hx hb dX9_look_6 ?_
  exact th_throwN (text := "no new device can be reached") (WS := wsX9_look) hx hb hst hts hown (by decide +kernel) hT (by decide +kernel) (by decide +kernel) (by decide +kernel) (by decide +kernel) (by decide +kernel) (by decide +kernel) (by decide +kernel) hS (hl.1.trans hml.symm) dX9_look_9 dX9_look_12 dX9_look_13 dX9_look_15 dX9_look_18 hout hlocks (by decide) (by decide) (Nat.le_refl _) (Nat.le_refl _) (Nat.le_refl _) (Nat.le_refl _)

theorem iw_X9_reckonReserved_RX5 : ∀ w ∈ u_ws RX5 TX5 14, w ∈ wsX9_reckonReserved := by decide +kernel
theorem iw_X9_reckonReserved_RX9 : ∀ w ∈ u_ws RX9 TX9 13, w ∈ wsX9_reckonReserved := by decide +kernel
set_option maxRecDepth 100000 in
set_option maxHeartbeats 4000000 in
theorem c_reckon (l : Launch) (D : va_G) (cy : Nat → ClassId) {ad : Nat → Nat} {rw_ : Nat → Nat → Option Nat} {w : va_W} (F : FrC cy ad rw_ w) (a b : Int32) : RO l D cy w yX9_reckonReserved wsX9_reckonReserved 0 0 [.ref (ad 0), .int a, .int b] (some (.int 0)) := by
  refine ro_ofW (cc := cX9_reckonReserved) (maxL := 8) (ret := (some .int)) (lv := [(0, .ref (ad 0)), (1, .int a), (2, .int b)]) (by decide) rfl (Nat.le_of_ble_eq_true rfl) rfl ?_
  intro p e s m below meth c ls hx hb hr hml hown hlocks hname hts hv hl
  have hown : s.vm.findClass RX9 = some m.cls := hown
  obtain ⟨hP, hK, hN⟩ := hv
  have hS : va_S (fun _ => False) s.heap s.heap [] := va_S.rf
  refine lv_iconst (v := 0) hx hb dX9_reckonReserved_0 (by decide) ?_
  refine lv_istore_n (lv' := [(3, .int 0), (0, .ref (ad 0)), (1, .int a), (2, .int b)]) hx hb dX9_reckonReserved_1 rfl hl (by decide) rfl (fun ls hl => ?_)
  refine lv_iconst (v := 0) hx hb dX9_reckonReserved_2 (by decide) ?_
  refine lv_istore (lv' := [(4, .int 0), (3, .int 0), (0, .ref (ad 0)), (1, .int a), (2, .int b)]) hx hb dX9_reckonReserved_3 hl (by decide) rfl (fun ls hl => ?_)
  refine ro_loop (w := w) 12 0 (fun i => [(4, .int (nI i)), (3, .int 0), (0, .ref (ad 0)), (1, .int a), (2, .int b)]) ?_ (by decide) hP hS (lv_sub hl [0, 1, 2, 3, 4] rfl)
  intro i hi0 hi ih_i H locs ls hP hS hl
  refine lv_iload hx hb dX9_reckonReserved_5 (lv_at hl 0 rfl) ?_
  refine lv_bipush (v := 12) hx hb dX9_reckonReserved_7 (by decide) ?_
  refine lv_icmp_ge (tgt := 103) hx hb dX9_reckonReserved_9 (by decide) (fun c9 => ?_) (fun c9 => ?_)
  · obtain rfl : i = 12 := my_exit (N := 12) (by decide) (by decide) hi c9
    refine lv_iload_n hx hb dX9_reckonReserved_103 rfl (lv_at hl 1 rfl) ?_
    exact W.iret hx hb hr (fun t ht hW => ⟨rfl, hS.F ht⟩) hS.2.2 dX9_reckonReserved_104
  · have hi : i < 12 := my_cont (N := 12) (by decide) (by decide) hi c9
    refine lv_aload_n hx hb dX9_reckonReserved_12 rfl (lv_at hl 2 rfl) ?_
    obtain ⟨k_1, hk_1⟩ := frc_hub F
    refine va_get (D := D) (ci := 14) (v := .ref (ad 4)) (C := RX9) (T := TX9) (N := 13) hx hb hts iw_X9_reckonReserved_RX9 hown hK hP k_1 hk_1 rfl 5 (by decide) (hts (.fieldLink RX9 24 "Hubcascade" "pipes" "[LHubcascade$Pipe;") (by decide +kernel)) (fun _ h9 => h9) rfl dX9_reckonReserved_13 ?_
    refine lv_iload hx hb dX9_reckonReserved_16 (lv_at hl 0 rfl) ?_
    obtain ⟨k_2, hk_2⟩ := frc_pv F
    refine my_ald hx hb hK hP k_2 6 hk_2 rfl (i := nI i) (j := i) (r := ad (600 + i)) rfl hi (by decide) (frc_pvr F i hi) dX9_reckonReserved_18 ?_
    refine lv_astore (lv' := [(5, .ref (ad (600 + i))), (4, .int (nI i)), (3, .int 0), (0, .ref (ad 0)), (1, .int a), (2, .int b)]) hx hb dX9_reckonReserved_19 hl (by decide) rfl (fun ls hl => ?_)
    refine lv_aload hx hb dX9_reckonReserved_21 (lv_at hl 0 rfl) ?_
    obtain ⟨k_3, hk_3⟩ := frc_pi F i hi
    refine va_getN (D := D) (ci := 10) (v := .null) (C := RX5) (T := TX5) (N := 14) hx hb hts iw_X9_reckonReserved_RX5 hown hK hP k_3 hk_3 rfl 1 (by decide) (va_Nw.use rfl (hN.1 _ nf_65)) (fun _ h9 => h9) rfl dX9_reckonReserved_23 ?_
    refine lv_astoreN (lv' := [(6, .null), (5, .ref (ad (600 + i))), (4, .int (nI i)), (3, .int 0), (0, .ref (ad 0)), (1, .int a), (2, .int b)]) hx hb dX9_reckonReserved_26 hl (by decide) rfl (fun ls hl => ?_)
    refine lv_aload hx hb dX9_reckonReserved_28 (lv_at hl 1 rfl) ?_
    refine va_getN (D := D) (ci := 10) (v := .null) (C := RX5) (T := TX5) (N := 14) hx hb hts iw_X9_reckonReserved_RX5 hown hK hP k_3 hk_3 rfl 2 (by decide) (va_Nw.use rfl (hN.1 _ nf_66)) (fun _ h9 => h9) rfl dX9_reckonReserved_30 ?_
    refine lv_astoreN (lv' := [(7, .null), (6, .null), (5, .ref (ad (600 + i))), (4, .int (nI i)), (3, .int 0), (0, .ref (ad 0)), (1, .int a), (2, .int b)]) hx hb dX9_reckonReserved_33 hl (by decide) rfl (fun ls hl => ?_)
    refine lv_aloadN hx hb dX9_reckonReserved_35 (lv_at hl 1 rfl) ?_
    refine lv_ifnullN (tgt := 97) hx hb dX9_reckonReserved_37 (by decide) ?_
    refine lv_iinc (v := nI (i + 1)) (lv' := [(4, .int (nI (i + 1))), (7, .null), (6, .null), (5, .ref (ad (600 + i))), (3, .int 0), (0, .ref (ad 0)), (1, .int a), (2, .int b)]) hx hb dX9_reckonReserved_97 hl (k := 3) rfl (nI_1 _) (by decide) rfl (fun ls hl => ?_)
    refine lv_goto (tgt := 5) hx hb dX9_reckonReserved_100 (by decide) ?_
    exact ih_i hi _ _ _ hP hS (lv_sub hl [0, 4, 5, 6, 7] rfl)

theorem iw_X9_areReservesRight_RX8 : ∀ w ∈ u_ws RX8 TX8 5, w ∈ wsX9_areReservesRight := by decide +kernel
theorem iw_X9_areReservesRight_RX9 : ∀ w ∈ u_ws RX9 TX9 13, w ∈ wsX9_areReservesRight := by decide +kernel
set_option maxRecDepth 100000 in
set_option maxHeartbeats 4000000 in
theorem c_reserves (l : Launch) (D : va_G) (cy : Nat → ClassId) {ad : Nat → Nat} {rw_ : Nat → Nat → Option Nat} {w : va_W} (F : FrC cy ad rw_ w) : RO l D cy w yX9_areReservesRight wsX9_areReservesRight 1 27 [.ref (ad 0)] (some (.int 1)) := by
  refine ro_ofW (cc := cX9_areReservesRight) (maxL := 4) (ret := (some .boolean)) (lv := [(0, .ref (ad 0))]) (by decide) rfl (Nat.le_of_ble_eq_true rfl) rfl ?_
  intro p e s m below meth c ls hx hb hr hml hown hlocks hname hts hv hl
  have hown : s.vm.findClass RX9 = some m.cls := hown
  obtain ⟨hP, hK, hN⟩ := hv
  have hS : va_S (fun _ => False) s.heap s.heap [] := va_S.rf
  refine lv_iconst (v := 0) hx hb dX9_areReservesRight_0 (by decide) ?_
  refine lv_istore_n (lv' := [(1, .int 0), (0, .ref (ad 0))]) hx hb dX9_areReservesRight_1 rfl hl (by decide) rfl (fun ls hl => ?_)
  refine ro_loop (w := w) 8 0 (fun f => [(1, .int (nI f)), (0, .ref (ad 0))]) ?_ (by decide) hP hS (lv_sub hl [0, 1] rfl)
  intro f hf0 hf ih_f H locs ls hP hS hl
  refine lv_iload_n hx hb dX9_areReservesRight_2 rfl (lv_at hl 0 rfl) ?_
  refine lv_bipush (v := 8) hx hb dX9_areReservesRight_3 (by decide) ?_
  refine lv_icmp_ge (tgt := 95) hx hb dX9_areReservesRight_5 (by decide) (fun c5 => ?_) (fun c5 => ?_)
  · obtain rfl : f = 8 := my_exit (N := 8) (by decide) (by decide) hf c5
    refine lv_iconst (v := 1) hx hb dX9_areReservesRight_95 (by decide) ?_
    exact W.zret hx hb hr (by decide) (fun t ht hW => ⟨rfl, hS.F ht⟩) hS.2.2 dX9_areReservesRight_96
  · have hf : f < 8 := my_cont (N := 8) (by decide) (by decide) hf c5
    refine lv_aload_n hx hb dX9_areReservesRight_8 rfl (lv_at hl 1 rfl) ?_
    obtain ⟨k_1, hk_1⟩ := frc_hub F
    refine va_get (D := D) (ci := 14) (v := .ref (ad 9)) (C := RX9) (T := TX9) (N := 13) hx hb hts iw_X9_areReservesRight_RX9 hown hK hP k_1 hk_1 rfl 10 (by decide) (hts (.fieldLink RX9 45 "Hubcascade" "units" "LHubcascade$Units;") (by decide +kernel)) (fun _ h9 => h9) rfl dX9_areReservesRight_9 ?_
    obtain ⟨k_2, hk_2⟩ := frc_un F
    refine va_getN (D := D) (ci := 13) (v := .ref (ad 10)) (C := RX8) (T := TX8) (N := 5) hx hb hts iw_X9_areReservesRight_RX8 hown hK hP k_2 hk_2 rfl 0 (by decide) (va_Nw.use rfl (hN.1 _ nf_2)) (fun _ h9 => h9) rfl dX9_areReservesRight_12 ?_
    refine lv_iload_n hx hb dX9_areReservesRight_15 rfl (lv_at hl 0 rfl) ?_
    obtain ⟨k_3, hk_3⟩ := frc_uh F
    refine va_iald (f := fun _ => 0) hx hb hK hP k_3 0 hk_3 rfl (vp_in_nI hf (by decide)) dX9_areReservesRight_16 ?_
    refine lv_aload_n hx hb dX9_areReservesRight_17 rfl (lv_at hl 1 rfl) ?_
    refine lv_iload_n hx hb dX9_areReservesRight_18 rfl (lv_at hl 0 rfl) ?_
    refine lv_iconst (v := (-1)) hx hb dX9_areReservesRight_19 (by decide) ?_
    refine ro_callV (As := [.int (nI f), .int (-1)]) (rest := [.int 0]) ⟨hx, hb, hml, hown, hts⟩ (c_reckon l D cy F (nI f) (-1)) (cwV 2 hts gX9_areReservesRight_X9_reckonReserved rfl rfl rfl (by decide +kernel) ⟨by decide, by decide⟩) hK hN hP hS (ci := 14) rfl hk_1 rfl rfl hl.1 rfl (Nat.le_of_ble_eq_true rfl) dX9_areReservesRight_20 ⟨Nat.le_of_ble_eq_true rfl, Nat.le_of_ble_eq_true rfl⟩ (fun H locs hP hS => ?_)
    refine lv_icmp_ne (tgt := 40) hx hb dX9_areReservesRight_23 (by decide) (fun c => absurd (by decide) c) (fun _ => ?_)
    refine lv_aload_n hx hb dX9_areReservesRight_26 rfl (lv_at hl 1 rfl) ?_
    refine va_get (D := D) (ci := 14) (v := .ref (ad 9)) (C := RX9) (T := TX9) (N := 13) hx hb hts iw_X9_areReservesRight_RX9 hown hK hP k_1 hk_1 rfl 10 (by decide) (hts (.fieldLink RX9 45 "Hubcascade" "units" "LHubcascade$Units;") (by decide +kernel)) (fun _ h9 => h9) rfl dX9_areReservesRight_27 ?_
    refine va_getN (D := D) (ci := 13) (v := .ref (ad 10)) (C := RX8) (T := TX8) (N := 5) hx hb hts iw_X9_areReservesRight_RX8 hown hK hP k_2 hk_2 rfl 0 (by decide) (va_Nw.use rfl (hN.1 _ nf_2)) (fun _ h9 => h9) rfl dX9_areReservesRight_30 ?_
    refine lv_iload_n hx hb dX9_areReservesRight_33 rfl (lv_at hl 0 rfl) ?_
    refine va_iald (f := fun _ => 0) hx hb hK hP k_3 0 hk_3 rfl (vp_in_nI hf (by decide)) dX9_areReservesRight_34 ?_
    refine lv_bipush (v := 80) hx hb dX9_areReservesRight_35 (by decide) ?_
    refine lv_icmp_le (tgt := 42) hx hb dX9_areReservesRight_37 (by decide) (fun _ => ?_) (fun c => absurd (by decide) c)
    refine lv_iconst (v := 0) hx hb dX9_areReservesRight_42 (by decide) ?_
    refine lv_istore_n (lv' := [(2, .int 0), (1, .int (nI f)), (0, .ref (ad 0))]) hx hb dX9_areReservesRight_43 rfl hl (by decide) rfl (fun ls hl => ?_)
    refine ro_loop (w := w) 16 0 (fun i => [(2, .int (nI i)), (1, .int (nI f)), (0, .ref (ad 0))]) ?_ (by decide) hP hS (lv_sub hl [0, 1, 2] rfl)
    intro i hi0 hi ih_i H locs ls hP hS hl
    refine lv_iload_n hx hb dX9_areReservesRight_44 rfl (lv_at hl 0 rfl) ?_
    refine lv_bipush (v := 16) hx hb dX9_areReservesRight_45 (by decide) ?_
    refine lv_icmp_ge (tgt := 89) hx hb dX9_areReservesRight_47 (by decide) (fun c47 => ?_) (fun c47 => ?_)
    · obtain rfl : i = 16 := my_exit (N := 16) (by decide) (by decide) hi c47
      refine lv_iinc (v := nI (f + 1)) (lv' := [(1, .int (nI (f + 1))), (2, .int (nI 16)), (0, .ref (ad 0))]) hx hb dX9_areReservesRight_89 hl (k := 1) rfl (nI_1 _) (by decide) rfl (fun ls hl => ?_)
      refine lv_goto (tgt := 2) hx hb dX9_areReservesRight_92 (by decide) ?_
      exact ih_f hf _ _ _ hP hS (lv_sub hl [0, 2] rfl)
    · have hi : i < 16 := my_cont (N := 16) (by decide) (by decide) hi c47
      refine lv_aload_n hx hb dX9_areReservesRight_50 rfl (lv_at hl 2 rfl) ?_
      refine va_get (D := D) (ci := 14) (v := .ref (ad 9)) (C := RX9) (T := TX9) (N := 13) hx hb hts iw_X9_areReservesRight_RX9 hown hK hP k_1 hk_1 rfl 10 (by decide) (hts (.fieldLink RX9 45 "Hubcascade" "units" "LHubcascade$Units;") (by decide +kernel)) (fun _ h9 => h9) rfl dX9_areReservesRight_51 ?_
      refine va_getN (D := D) (ci := 13) (v := .ref (ad 11)) (C := RX8) (T := TX8) (N := 5) hx hb hts iw_X9_areReservesRight_RX8 hown hK hP k_2 hk_2 rfl 1 (by decide) (va_Nw.use rfl (hN.1 _ nf_3)) (fun _ h9 => h9) rfl dX9_areReservesRight_54 ?_
      refine lv_iload_n hx hb dX9_areReservesRight_57 rfl (lv_at hl 0 rfl) ?_
      refine lv_bipush (v := 8) hx hb dX9_areReservesRight_58 (by decide) ?_
      refine lv_imul hx hb dX9_areReservesRight_60 ?_
      refine lv_topi (fun y ey => ?_)
      obtain rfl : y = nI (i * 8) := ey.trans (pk_mul i 8)
      refine lv_iload_n hx hb dX9_areReservesRight_61 rfl (lv_at hl 1 rfl) ?_
      refine lv_iadd hx hb dX9_areReservesRight_62 ?_
      refine lv_topi (fun y ey => ?_)
      obtain rfl : y = nI (i * 8 + f) := ey.trans (nI_add (i * 8) f)
      obtain ⟨k_4, hk_4⟩ := frc_us F
      refine va_iald (f := fun _ => 0) hx hb hK hP k_4 0 hk_4 rfl (vp_in_nI (by omega) (by decide)) dX9_areReservesRight_63 ?_
      refine lv_istore_n (lv' := [(3, .int 0), (2, .int (nI i)), (1, .int (nI f)), (0, .ref (ad 0))]) hx hb dX9_areReservesRight_64 rfl hl (by decide) rfl (fun ls hl => ?_)
      refine lv_iload_n hx hb dX9_areReservesRight_65 rfl (lv_at hl 0 rfl) ?_
      refine lv_aload_n hx hb dX9_areReservesRight_66 rfl (lv_at hl 3 rfl) ?_
      refine lv_iload_n hx hb dX9_areReservesRight_67 rfl (lv_at hl 2 rfl) ?_
      refine lv_iload_n hx hb dX9_areReservesRight_68 rfl (lv_at hl 1 rfl) ?_
      refine ro_callV (As := [.int (nI f), .int (nI i)]) (rest := [.int 0]) ⟨hx, hb, hml, hown, hts⟩ (c_reckon l D cy F (nI f) (nI i)) (cwV 2 hts gX9_areReservesRight_X9_reckonReserved rfl rfl rfl (by decide +kernel) ⟨by decide, by decide⟩) hK hN hP hS (ci := 14) rfl hk_1 rfl rfl hl.1 rfl (Nat.le_of_ble_eq_true rfl) dX9_areReservesRight_69 ⟨Nat.le_of_ble_eq_true rfl, Nat.le_of_ble_eq_true rfl⟩ (fun H locs hP hS => ?_)
      refine lv_icmp_ne (tgt := 81) hx hb dX9_areReservesRight_72 (by decide) (fun c => absurd (by decide) c) (fun _ => ?_)
      refine lv_iload_n hx hb dX9_areReservesRight_75 rfl (lv_at hl 0 rfl) ?_
      refine lv_bipush (v := 48) hx hb dX9_areReservesRight_76 (by decide) ?_
      refine lv_icmp_le (tgt := 83) hx hb dX9_areReservesRight_78 (by decide) (fun _ => ?_) (fun c => absurd (by decide) c)
      refine lv_iinc (v := nI (i + 1)) (lv' := [(2, .int (nI (i + 1))), (3, .int 0), (1, .int (nI f)), (0, .ref (ad 0))]) hx hb dX9_areReservesRight_83 hl (k := 1) rfl (nI_1 _) (by decide) rfl (fun ls hl => ?_)
      refine lv_goto (tgt := 44) hx hb dX9_areReservesRight_86 (by decide) ?_
      exact ih_i hi _ _ _ hP hS (lv_sub hl [0, 2, 3] rfl)

theorem iw_X9_areAddressesUnlike_RX1 : ∀ w ∈ u_ws RX1 TX1 20, w ∈ wsX9_areAddressesUnlike := by decide +kernel
theorem iw_X9_areAddressesUnlike_RX9 : ∀ w ∈ u_ws RX9 TX9 13, w ∈ wsX9_areAddressesUnlike := by decide +kernel
set_option maxRecDepth 100000 in
set_option maxHeartbeats 4000000 in
theorem c_addrs (l : Launch) (D : va_G) (cy : Nat → ClassId) {ad : Nat → Nat} {rw_ : Nat → Nat → Option Nat} {w : va_W} (F : FrC cy ad rw_ w) : RO l D cy w yX9_areAddressesUnlike wsX9_areAddressesUnlike 0 0 [.ref (ad 0)] (some (.int 1)) := by
  refine ro_ofW (cc := cX9_areAddressesUnlike) (maxL := 3) (ret := (some .boolean)) (lv := [(0, .ref (ad 0))]) (by decide) rfl (Nat.le_of_ble_eq_true rfl) rfl ?_
  intro p e s m below meth c ls hx hb hr hml hown hlocks hname hts hv hl
  have hown : s.vm.findClass RX9 = some m.cls := hown
  obtain ⟨hP, hK, hN⟩ := hv
  have hS : va_S (fun _ => False) s.heap s.heap [] := va_S.rf
  refine lv_iconst (v := 0) hx hb dX9_areAddressesUnlike_0 (by decide) ?_
  refine lv_istore_n (lv' := [(1, .int 0), (0, .ref (ad 0))]) hx hb dX9_areAddressesUnlike_1 rfl hl (by decide) rfl (fun ls hl => ?_)
  refine ro_loop (w := w) 16 0 (fun i => [(1, .int (nI i)), (0, .ref (ad 0))]) ?_ (by decide) hP hS (lv_sub hl [0, 1] rfl)
  intro i hi0 hi ih_i H locs ls hP hS hl
  rcases Nat.eq_zero_or_pos i with rfl | hi1
  · refine lv_iload_n hx hb dX9_areAddressesUnlike_2 rfl (lv_at hl 0 rfl) ?_
    refine lv_bipush (v := 16) hx hb dX9_areAddressesUnlike_3 (by decide) ?_
    refine lv_icmp_ge (tgt := 62) hx hb dX9_areAddressesUnlike_5 (by decide) (fun c => absurd c (by decide)) (fun _ => ?_)
    refine lv_iconst (v := 0) hx hb dX9_areAddressesUnlike_8 (by decide) ?_
    refine lv_istore_n (lv' := [(2, .int 0), (1, .int 0), (0, .ref (ad 0))]) hx hb dX9_areAddressesUnlike_9 rfl hl (by decide) rfl (fun ls hl => ?_)
    refine lv_iload_n hx hb dX9_areAddressesUnlike_10 rfl (lv_at hl 0 rfl) ?_
    refine lv_iload_n hx hb dX9_areAddressesUnlike_11 rfl (lv_at hl 1 rfl) ?_
    refine lv_icmp_ge (tgt := 56) hx hb dX9_areAddressesUnlike_12 (by decide) (fun _ => ?_) (fun c => absurd (by decide) c)
    refine lv_iinc (v := 1) (lv' := [(1, .int 1), (2, .int 0), (0, .ref (ad 0))]) hx hb dX9_areAddressesUnlike_56 hl (k := 1) rfl (by decide) (by decide) rfl (fun ls hl => ?_)
    refine lv_goto (tgt := 2) hx hb dX9_areAddressesUnlike_59 (by decide) ?_
    exact ih_i (by decide) _ _ _ hP hS (lv_sub hl [0, 2] rfl)
  · refine lv_iload_n hx hb dX9_areAddressesUnlike_2 rfl (lv_at hl 0 rfl) ?_
    refine lv_bipush (v := 16) hx hb dX9_areAddressesUnlike_3 (by decide) ?_
    refine lv_icmp_ge (tgt := 62) hx hb dX9_areAddressesUnlike_5 (by decide) (fun c5 => ?_) (fun c5 => ?_)
    · obtain rfl : i = 16 := my_exit (N := 16) (by decide) (by decide) hi c5
      refine lv_iconst (v := 1) hx hb dX9_areAddressesUnlike_62 (by decide) ?_
      exact W.zret hx hb hr (by decide) (fun t ht hW => ⟨rfl, hS.F ht⟩) hS.2.2 dX9_areAddressesUnlike_63
    · have hi : i < 16 := my_cont (N := 16) (by decide) (by decide) hi c5
      refine lv_iconst (v := 0) hx hb dX9_areAddressesUnlike_8 (by decide) ?_
      refine lv_istore_n (lv' := [(2, .int 0), (1, .int (nI i)), (0, .ref (ad 0))]) hx hb dX9_areAddressesUnlike_9 rfl hl (by decide) rfl (fun ls hl => ?_)
      refine ro_loop (w := w) i 0 (fun k => [(2, .int (nI k)), (1, .int (nI i)), (0, .ref (ad 0))]) ?_ (Nat.zero_le _) hP hS (lv_sub hl [0, 1, 2] rfl)
      intro k hk0 hk ih_k H locs ls hP hS hl
      refine lv_iload_n hx hb dX9_areAddressesUnlike_10 rfl (lv_at hl 0 rfl) ?_
      refine lv_iload_n hx hb dX9_areAddressesUnlike_11 rfl (lv_at hl 1 rfl) ?_
      refine lv_icmp_ge (tgt := 56) hx hb dX9_areAddressesUnlike_12 (by decide) (fun c12 => ?_) (fun c12 => ?_)
      · have ek : k = i := my_exit (N := i) rfl (by omega) hk c12
        refine lv_iinc (v := nI (i + 1)) (lv' := [(1, .int (nI (i + 1))), (2, .int (nI k)), (0, .ref (ad 0))]) hx hb dX9_areAddressesUnlike_56 hl (k := 1) rfl (nI_1 _) (by decide) rfl (fun ls hl => ?_)
        refine lv_goto (tgt := 2) hx hb dX9_areAddressesUnlike_59 (by decide) ?_
        exact ih_i hi _ _ _ hP hS (lv_sub hl [0, 2] rfl)
      · have hk : k < i := my_cont (N := i) rfl (by omega) hk c12
        refine lv_aload_n hx hb dX9_areAddressesUnlike_15 rfl (lv_at hl 2 rfl) ?_
        obtain ⟨k_1, hk_1⟩ := frc_hub F
        refine va_get (D := D) (ci := 14) (v := .ref (ad 1)) (C := RX9) (T := TX9) (N := 13) hx hb hts iw_X9_areAddressesUnlike_RX9 hown hK hP k_1 hk_1 rfl 0 (by decide) (hts (.fieldLink RX9 11 "Hubcascade" "devices" "[LHubcascade$Device;") (by decide +kernel)) (fun _ h9 => h9) rfl dX9_areAddressesUnlike_16 ?_
        refine lv_iload_n hx hb dX9_areAddressesUnlike_19 rfl (lv_at hl 1 rfl) ?_
        obtain ⟨k_2, hk_2⟩ := frc_dv F
        refine my_ald hx hb hK hP k_2 4 hk_2 rfl (i := nI i) (j := i) (r := ad (100 + i)) rfl hi (by decide) (frc_dvr F i hi) dX9_areAddressesUnlike_20 ?_
        obtain ⟨k_3, hk_3⟩ := frc_di F i hi1 hi
        refine va_getN (D := D) (ci := 6) (v := .int 0) (C := RX1) (T := TX1) (N := 20) hx hb hts iw_X9_areAddressesUnlike_RX1 hown hK hP k_3 hk_3 rfl 13 (by decide) (va_Nw.use rfl (hN.1 _ nf_44)) (fun _ h9 => h9) rfl dX9_areAddressesUnlike_21 ?_
        refine lv_if_eq (tgt := 50) hx hb dX9_areAddressesUnlike_24 (by decide) (fun _ => ?_) (fun c => absurd (by decide) c)
        refine lv_iinc (v := nI (k + 1)) (lv' := [(2, .int (nI (k + 1))), (1, .int (nI i)), (0, .ref (ad 0))]) hx hb dX9_areAddressesUnlike_50 hl (k := 0) rfl (nI_1 _) (by decide) rfl (fun ls hl => ?_)
        refine lv_goto (tgt := 10) hx hb dX9_areAddressesUnlike_53 (by decide) ?_
        exact ih_k hk _ _ _ hP hS (lv_sub hl [0, 1, 2] rfl)

theorem iw_X9_areHubsPlugged_RX1 : ∀ w ∈ u_ws RX1 TX1 20, w ∈ wsX9_areHubsPlugged := by decide +kernel
theorem iw_X9_areHubsPlugged_RX9 : ∀ w ∈ u_ws RX9 TX9 13, w ∈ wsX9_areHubsPlugged := by decide +kernel
set_option maxRecDepth 100000 in
set_option maxHeartbeats 4000000 in
theorem c_hubs (l : Launch) (D : va_G) (cy : Nat → ClassId) {ad : Nat → Nat} {rw_ : Nat → Nat → Option Nat} {w : va_W} (F : FrC cy ad rw_ w) : RO l D cy w yX9_areHubsPlugged wsX9_areHubsPlugged 0 0 [.ref (ad 0)] (some (.int 1)) := by
  refine ro_ofW (cc := cX9_areHubsPlugged) (maxL := 3) (ret := (some .boolean)) (lv := [(0, .ref (ad 0))]) (by decide) rfl (Nat.le_of_ble_eq_true rfl) rfl ?_
  intro p e s m below meth c ls hx hb hr hml hown hlocks hname hts hv hl
  have hown : s.vm.findClass RX9 = some m.cls := hown
  obtain ⟨hP, hK, hN⟩ := hv
  have hS : va_S (fun _ => False) s.heap s.heap [] := va_S.rf
  refine lv_iconst (v := 1) hx hb dX9_areHubsPlugged_0 (by decide) ?_
  refine lv_istore_n (lv' := [(1, .int 1), (0, .ref (ad 0))]) hx hb dX9_areHubsPlugged_1 rfl hl (by decide) rfl (fun ls hl => ?_)
  refine ro_loop (w := w) 16 1 (fun i => [(1, .int (nI i)), (0, .ref (ad 0))]) ?_ (by decide) hP hS (lv_sub hl [0, 1] rfl)
  intro i hi1 hi ih_i H locs ls hP hS hl
  refine lv_iload_n hx hb dX9_areHubsPlugged_2 rfl (lv_at hl 0 rfl) ?_
  refine lv_bipush (v := 16) hx hb dX9_areHubsPlugged_3 (by decide) ?_
  refine lv_icmp_ge (tgt := 51) hx hb dX9_areHubsPlugged_5 (by decide) (fun c5 => ?_) (fun c5 => ?_)
  · obtain rfl : i = 16 := my_exit (N := 16) (by decide) (by decide) hi c5
    refine lv_iconst (v := 1) hx hb dX9_areHubsPlugged_51 (by decide) ?_
    exact W.zret hx hb hr (by decide) (fun t ht hW => ⟨rfl, hS.F ht⟩) hS.2.2 dX9_areHubsPlugged_52
  · have hi : i < 16 := my_cont (N := 16) (by decide) (by decide) hi c5
    refine lv_aload_n hx hb dX9_areHubsPlugged_8 rfl (lv_at hl 1 rfl) ?_
    obtain ⟨k_1, hk_1⟩ := frc_hub F
    refine va_get (D := D) (ci := 14) (v := .ref (ad 1)) (C := RX9) (T := TX9) (N := 13) hx hb hts iw_X9_areHubsPlugged_RX9 hown hK hP k_1 hk_1 rfl 0 (by decide) (hts (.fieldLink RX9 11 "Hubcascade" "devices" "[LHubcascade$Device;") (by decide +kernel)) (fun _ h9 => h9) rfl dX9_areHubsPlugged_9 ?_
    refine lv_iload_n hx hb dX9_areHubsPlugged_12 rfl (lv_at hl 0 rfl) ?_
    obtain ⟨k_2, hk_2⟩ := frc_dv F
    refine my_ald hx hb hK hP k_2 4 hk_2 rfl (i := nI i) (j := i) (r := ad (100 + i)) rfl hi (by decide) (frc_dvr F i hi) dX9_areHubsPlugged_13 ?_
    refine lv_astore_n (lv' := [(2, .ref (ad (100 + i))), (1, .int (nI i)), (0, .ref (ad 0))]) hx hb dX9_areHubsPlugged_14 rfl hl (by decide) rfl (fun ls hl => ?_)
    refine lv_aload_n hx hb dX9_areHubsPlugged_15 rfl (lv_at hl 0 rfl) ?_
    obtain ⟨k_3, hk_3⟩ := frc_di F i hi1 hi
    refine va_getN (D := D) (ci := 6) (v := .int 117) (C := RX1) (T := TX1) (N := 20) hx hb hts iw_X9_areHubsPlugged_RX1 hown hK hP k_3 hk_3 rfl 7 (by decide) (va_Nw.use rfl (hN.1 _ nf_38)) (fun _ h9 => h9) rfl dX9_areHubsPlugged_16 ?_
    refine lv_bipush (v := 117) hx hb dX9_areHubsPlugged_19 (by decide) ?_
    refine lv_icmp_eq (tgt := 45) hx hb dX9_areHubsPlugged_21 (by decide) (fun _ => ?_) (fun c => absurd (by decide) c)
    refine lv_iinc (v := nI (i + 1)) (lv' := [(1, .int (nI (i + 1))), (2, .ref (ad (100 + i))), (0, .ref (ad 0))]) hx hb dX9_areHubsPlugged_45 hl (k := 1) rfl (nI_1 _) (by decide) rfl (fun ls hl => ?_)
    refine lv_goto (tgt := 2) hx hb dX9_areHubsPlugged_48 (by decide) ?_
    exact ih_i hi _ _ _ hP hS (lv_sub hl [0, 2] rfl)

theorem iw_X9_isNothingInvented_RX1 : ∀ w ∈ u_ws RX1 TX1 20, w ∈ wsX9_isNothingInvented := by decide +kernel
theorem iw_X9_isNothingInvented_RX2 : ∀ w ∈ u_ws RX2 TX2 9, w ∈ wsX9_isNothingInvented := by decide +kernel
theorem iw_X9_isNothingInvented_RX9 : ∀ w ∈ u_ws RX9 TX9 13, w ∈ wsX9_isNothingInvented := by decide +kernel
set_option maxRecDepth 100000 in
set_option maxHeartbeats 4000000 in
theorem c_invent (l : Launch) (D : va_G) (cy : Nat → ClassId) {ad : Nat → Nat} {rw_ : Nat → Nat → Option Nat} {w : va_W} (F : FrC cy ad rw_ w) : RO l D cy w yX9_isNothingInvented wsX9_isNothingInvented 0 0 [.ref (ad 0)] (some (.int 1)) := by
  refine ro_ofW (cc := cX9_isNothingInvented) (maxL := 4) (ret := (some .boolean)) (lv := [(0, .ref (ad 0))]) (by decide) rfl (Nat.le_of_ble_eq_true rfl) rfl ?_
  intro p e s m below meth c ls hx hb hr hml hown hlocks hname hts hv hl
  have hown : s.vm.findClass RX9 = some m.cls := hown
  obtain ⟨hP, hK, hN⟩ := hv
  have hS : va_S (fun _ => False) s.heap s.heap [] := va_S.rf
  refine lv_iconst (v := 0) hx hb dX9_isNothingInvented_0 (by decide) ?_
  refine lv_istore_n (lv' := [(1, .int 0), (0, .ref (ad 0))]) hx hb dX9_isNothingInvented_1 rfl hl (by decide) rfl (fun ls hl => ?_)
  refine ro_loop (w := w) 16 0 (fun i => [(1, .int (nI i)), (0, .ref (ad 0))]) ?_ (by decide) hP hS (lv_sub hl [0, 1] rfl)
  intro i hi0 hi ih_i H locs ls hP hS hl
  rcases Nat.eq_zero_or_pos i with rfl | hi1
  · refine lv_iload_n hx hb dX9_isNothingInvented_2 rfl (lv_at hl 0 rfl) ?_
    refine lv_bipush (v := 16) hx hb dX9_isNothingInvented_3 (by decide) ?_
    refine lv_icmp_ge (tgt := 69) hx hb dX9_isNothingInvented_5 (by decide) (fun c => absurd c (by decide)) (fun _ => ?_)
    refine lv_iconst (v := 0) hx hb dX9_isNothingInvented_8 (by decide) ?_
    refine lv_istore_n (lv' := [(2, .int 0), (1, .int 0), (0, .ref (ad 0))]) hx hb dX9_isNothingInvented_9 rfl hl (by decide) rfl (fun ls hl => ?_)
    refine ro_loop (w := w) 3 0 (fun k => [(2, .int (nI k)), (1, .int 0), (0, .ref (ad 0))]) ?_ (by decide) hP hS (lv_sub hl [0, 1, 2] rfl)
    intro k hk0 hk ih_k H locs ls hP hS hl
    refine lv_iload_n hx hb dX9_isNothingInvented_10 rfl (lv_at hl 0 rfl) ?_
    refine lv_iconst (v := 3) hx hb dX9_isNothingInvented_11 (by decide) ?_
    refine lv_icmp_ge (tgt := 63) hx hb dX9_isNothingInvented_12 (by decide) (fun c12 => ?_) (fun c12 => ?_)
    · obtain rfl : k = 3 := my_exit (N := 3) (by decide) (by decide) hk c12
      refine lv_iinc (v := 1) (lv' := [(1, .int 1), (2, .int (nI 3)), (0, .ref (ad 0))]) hx hb dX9_isNothingInvented_63 hl (k := 1) rfl (by decide) (by decide) rfl (fun ls hl => ?_)
      refine lv_goto (tgt := 2) hx hb dX9_isNothingInvented_66 (by decide) ?_
      exact ih_i (by decide) _ _ _ hP hS (lv_sub hl [0, 2] rfl)
    · have hk : k < 3 := my_cont (N := 3) (by decide) (by decide) hk c12
      refine lv_aload_n hx hb dX9_isNothingInvented_15 rfl (lv_at hl 2 rfl) ?_
      obtain ⟨k_1, hk_1⟩ := frc_hub F
      refine va_get (D := D) (ci := 14) (v := .ref (ad 1)) (C := RX9) (T := TX9) (N := 13) hx hb hts iw_X9_isNothingInvented_RX9 hown hK hP k_1 hk_1 rfl 0 (by decide) (hts (.fieldLink RX9 11 "Hubcascade" "devices" "[LHubcascade$Device;") (by decide +kernel)) (fun _ h9 => h9) rfl dX9_isNothingInvented_16 ?_
      refine lv_iload_n hx hb dX9_isNothingInvented_19 rfl (lv_at hl 1 rfl) ?_
      obtain ⟨k_2, hk_2⟩ := frc_dv F
      refine my_ald hx hb hK hP k_2 4 hk_2 rfl (i := 0) (j := 0) (r := ad 100) (by decide) (by decide) (by decide) (frc_dvr F 0 (by decide)) dX9_isNothingInvented_20 ?_
      obtain ⟨k_3, hk_3⟩ := frc_d0 F
      refine va_getN (D := D) (ci := 6) (v := .ref (ad (140 + 0))) (C := RX1) (T := TX1) (N := 20) hx hb hts iw_X9_isNothingInvented_RX1 hown hK hP k_3 hk_3 rfl 19 (by decide) (va_Nw.use rfl (hN.1 _ nf_50)) (fun _ h9 => h9) rfl dX9_isNothingInvented_21 ?_
      refine lv_iload_n hx hb dX9_isNothingInvented_24 rfl (lv_at hl 0 rfl) ?_
      obtain ⟨k_4, hk_4⟩ := frc_ei F 0 (by decide)
      refine my_ald hx hb hK hP k_4 5 hk_4 rfl (i := nI k) (j := k) (r := ad (200 + 4 * 0 + k)) rfl hk (by decide) (frc_eir F 0 k (by decide) hk) dX9_isNothingInvented_25 ?_
      refine lv_astore_n (lv' := [(3, .ref (ad (200 + 4 * 0 + k))), (2, .int (nI k)), (1, .int 0), (0, .ref (ad 0))]) hx hb dX9_isNothingInvented_26 rfl hl (by decide) rfl (fun ls hl => ?_)
      refine lv_aload_n hx hb dX9_isNothingInvented_27 rfl (lv_at hl 0 rfl) ?_
      obtain ⟨k_5, hk_5⟩ := frc_ep F 0 k (by decide) hk
      refine va_getN (D := D) (ci := 7) (v := .int 0) (C := RX2) (T := TX2) (N := 9) hx hb hts iw_X9_isNothingInvented_RX2 hown hK hP k_5 hk_5 rfl 0 (by decide) (va_Nw.use rfl (hN.1 _ nf_19)) (fun _ h9 => h9) rfl dX9_isNothingInvented_28 ?_
      refine lv_if_eq (tgt := 57) hx hb dX9_isNothingInvented_31 (by decide) (fun _ => ?_) (fun c => absurd (by decide) c)
      refine lv_iinc (v := nI (k + 1)) (lv' := [(2, .int (nI (k + 1))), (3, .ref (ad (200 + 4 * 0 + k))), (1, .int 0), (0, .ref (ad 0))]) hx hb dX9_isNothingInvented_57 hl (k := 1) rfl (nI_1 _) (by decide) rfl (fun ls hl => ?_)
      refine lv_goto (tgt := 10) hx hb dX9_isNothingInvented_60 (by decide) ?_
      exact ih_k hk _ _ _ hP hS (lv_sub hl [0, 2, 3] rfl)
  · refine lv_iload_n hx hb dX9_isNothingInvented_2 rfl (lv_at hl 0 rfl) ?_
    refine lv_bipush (v := 16) hx hb dX9_isNothingInvented_3 (by decide) ?_
    refine lv_icmp_ge (tgt := 69) hx hb dX9_isNothingInvented_5 (by decide) (fun c5 => ?_) (fun c5 => ?_)
    · obtain rfl : i = 16 := my_exit (N := 16) (by decide) (by decide) hi c5
      refine lv_iconst (v := 1) hx hb dX9_isNothingInvented_69 (by decide) ?_
      exact W.zret hx hb hr (by decide) (fun t ht hW => ⟨rfl, hS.F ht⟩) hS.2.2 dX9_isNothingInvented_70
    · have hi : i < 16 := my_cont (N := 16) (by decide) (by decide) hi c5
      refine lv_iconst (v := 0) hx hb dX9_isNothingInvented_8 (by decide) ?_
      refine lv_istore_n (lv' := [(2, .int 0), (1, .int (nI i)), (0, .ref (ad 0))]) hx hb dX9_isNothingInvented_9 rfl hl (by decide) rfl (fun ls hl => ?_)
      refine ro_loop (w := w) 3 0 (fun k => [(2, .int (nI k)), (1, .int (nI i)), (0, .ref (ad 0))]) ?_ (by decide) hP hS (lv_sub hl [0, 1, 2] rfl)
      intro k hk0 hk ih_k H locs ls hP hS hl
      refine lv_iload_n hx hb dX9_isNothingInvented_10 rfl (lv_at hl 0 rfl) ?_
      refine lv_iconst (v := 3) hx hb dX9_isNothingInvented_11 (by decide) ?_
      refine lv_icmp_ge (tgt := 63) hx hb dX9_isNothingInvented_12 (by decide) (fun c12 => ?_) (fun c12 => ?_)
      · obtain rfl : k = 3 := my_exit (N := 3) (by decide) (by decide) hk c12
        refine lv_iinc (v := nI (i + 1)) (lv' := [(1, .int (nI (i + 1))), (2, .int (nI 3)), (0, .ref (ad 0))]) hx hb dX9_isNothingInvented_63 hl (k := 1) rfl (nI_1 _) (by decide) rfl (fun ls hl => ?_)
        refine lv_goto (tgt := 2) hx hb dX9_isNothingInvented_66 (by decide) ?_
        exact ih_i hi _ _ _ hP hS (lv_sub hl [0, 2] rfl)
      · have hk : k < 3 := my_cont (N := 3) (by decide) (by decide) hk c12
        refine lv_aload_n hx hb dX9_isNothingInvented_15 rfl (lv_at hl 2 rfl) ?_
        obtain ⟨k_6, hk_6⟩ := frc_hub F
        refine va_get (D := D) (ci := 14) (v := .ref (ad 1)) (C := RX9) (T := TX9) (N := 13) hx hb hts iw_X9_isNothingInvented_RX9 hown hK hP k_6 hk_6 rfl 0 (by decide) (hts (.fieldLink RX9 11 "Hubcascade" "devices" "[LHubcascade$Device;") (by decide +kernel)) (fun _ h9 => h9) rfl dX9_isNothingInvented_16 ?_
        refine lv_iload_n hx hb dX9_isNothingInvented_19 rfl (lv_at hl 1 rfl) ?_
        obtain ⟨k_7, hk_7⟩ := frc_dv F
        refine my_ald hx hb hK hP k_7 4 hk_7 rfl (i := nI i) (j := i) (r := ad (100 + i)) rfl hi (by decide) (frc_dvr F i hi) dX9_isNothingInvented_20 ?_
        obtain ⟨k_8, hk_8⟩ := frc_di F i hi1 hi
        refine va_getN (D := D) (ci := 6) (v := .ref (ad (140 + i))) (C := RX1) (T := TX1) (N := 20) hx hb hts iw_X9_isNothingInvented_RX1 hown hK hP k_8 hk_8 rfl 19 (by decide) (va_Nw.use rfl (hN.1 _ nf_50)) (fun _ h9 => h9) rfl dX9_isNothingInvented_21 ?_
        refine lv_iload_n hx hb dX9_isNothingInvented_24 rfl (lv_at hl 0 rfl) ?_
        obtain ⟨k_9, hk_9⟩ := frc_ei F i hi
        refine my_ald hx hb hK hP k_9 5 hk_9 rfl (i := nI k) (j := k) (r := ad (200 + 4 * i + k)) rfl hk (by decide) (frc_eir F i k hi hk) dX9_isNothingInvented_25 ?_
        refine lv_astore_n (lv' := [(3, .ref (ad (200 + 4 * i + k))), (2, .int (nI k)), (1, .int (nI i)), (0, .ref (ad 0))]) hx hb dX9_isNothingInvented_26 rfl hl (by decide) rfl (fun ls hl => ?_)
        refine lv_aload_n hx hb dX9_isNothingInvented_27 rfl (lv_at hl 0 rfl) ?_
        obtain ⟨k_10, hk_10⟩ := frc_ep F i k hi hk
        refine va_getN (D := D) (ci := 7) (v := .int 0) (C := RX2) (T := TX2) (N := 9) hx hb hts iw_X9_isNothingInvented_RX2 hown hK hP k_10 hk_10 rfl 0 (by decide) (va_Nw.use rfl (hN.1 _ nf_19)) (fun _ h9 => h9) rfl dX9_isNothingInvented_28 ?_
        refine lv_if_eq (tgt := 57) hx hb dX9_isNothingInvented_31 (by decide) (fun _ => ?_) (fun c => absurd (by decide) c)
        refine lv_iinc (v := nI (k + 1)) (lv' := [(2, .int (nI (k + 1))), (3, .ref (ad (200 + 4 * i + k))), (1, .int (nI i)), (0, .ref (ad 0))]) hx hb dX9_isNothingInvented_57 hl (k := 1) rfl (nI_1 _) (by decide) rfl (fun ls hl => ?_)
        refine lv_goto (tgt := 10) hx hb dX9_isNothingInvented_60 (by decide) ?_
        exact ih_k hk _ _ _ hP hS (lv_sub hl [0, 2, 3] rfl)

set_option maxRecDepth 100000 in
set_option maxHeartbeats 4000000 in
theorem c_isSound_ok (l : Launch) (D : va_G) (cy : Nat → ClassId) {ad : Nat → Nat} {rw_ : Nat → Nat → Option Nat} {w : va_W} (F : FrC cy ad rw_ w) : RO l D cy w yX9_isSound wsX9_isSound 2 50 [.ref (ad 0)] (some (.int 1)) := by
  refine ro_ofW (cc := cX9_isSound) (maxL := 1) (ret := (some .boolean)) (lv := [(0, .ref (ad 0))]) (by decide) rfl (Nat.le_of_ble_eq_true rfl) rfl ?_
  intro p e s m below meth c ls hx hb hr hml hown hlocks hname hts hv hl
  have hown : s.vm.findClass RX9 = some m.cls := hown
  obtain ⟨hP, hK, hN⟩ := hv
  have hS : va_S (fun _ => False) s.heap s.heap [] := va_S.rf
  refine lv_aload_n hx hb dX9_isSound_0 rfl (lv_at hl 0 rfl) ?_
  obtain ⟨k_1, hk_1⟩ := frc_hub F
  refine ro_callV (As := []) (rest := []) ⟨hx, hb, hml, hown, hts⟩ (c_reserves l D cy F) (cwV 0 hts gX9_isSound_X9_areReservesRight rfl rfl rfl (by decide +kernel) ⟨by decide, by decide⟩) hK hN hP hS (ci := 14) rfl hk_1 rfl rfl hl.1 rfl (Nat.le_of_ble_eq_true rfl) dX9_isSound_1 ⟨Nat.le_of_ble_eq_true rfl, Nat.le_of_ble_eq_true rfl⟩ (fun H locs hP hS => ?_)
  refine lv_if_eq (tgt := 32) hx hb dX9_isSound_4 (by decide) (fun c => absurd c (by decide)) (fun _ => ?_)
  refine lv_aload_n hx hb dX9_isSound_7 rfl (lv_at hl 0 rfl) ?_
  refine ro_callV (As := []) (rest := []) ⟨hx, hb, hml, hown, hts⟩ (c_addrs l D cy F) (cwV 0 hts gX9_isSound_X9_areAddressesUnlike rfl rfl rfl (by decide +kernel) ⟨by decide, by decide⟩) hK hN hP hS (ci := 14) rfl hk_1 rfl rfl hl.1 rfl (Nat.le_of_ble_eq_true rfl) dX9_isSound_8 ⟨Nat.le_of_ble_eq_true rfl, Nat.le_of_ble_eq_true rfl⟩ (fun H locs hP hS => ?_)
  refine lv_if_eq (tgt := 32) hx hb dX9_isSound_11 (by decide) (fun c => absurd c (by decide)) (fun _ => ?_)
  refine lv_aload_n hx hb dX9_isSound_14 rfl (lv_at hl 0 rfl) ?_
  refine ro_callV (As := []) (rest := []) ⟨hx, hb, hml, hown, hts⟩ (c_hubs l D cy F) (cwV 0 hts gX9_isSound_X9_areHubsPlugged rfl rfl rfl (by decide +kernel) ⟨by decide, by decide⟩) hK hN hP hS (ci := 14) rfl hk_1 rfl rfl hl.1 rfl (Nat.le_of_ble_eq_true rfl) dX9_isSound_15 ⟨Nat.le_of_ble_eq_true rfl, Nat.le_of_ble_eq_true rfl⟩ (fun H locs hP hS => ?_)
  refine lv_if_eq (tgt := 32) hx hb dX9_isSound_18 (by decide) (fun c => absurd c (by decide)) (fun _ => ?_)
  refine lv_aload_n hx hb dX9_isSound_21 rfl (lv_at hl 0 rfl) ?_
  refine ro_callV (As := []) (rest := []) ⟨hx, hb, hml, hown, hts⟩ (c_invent l D cy F) (cwV 0 hts gX9_isSound_X9_isNothingInvented rfl rfl rfl (by decide +kernel) ⟨by decide, by decide⟩) hK hN hP hS (ci := 14) rfl hk_1 rfl rfl hl.1 rfl (Nat.le_of_ble_eq_true rfl) dX9_isSound_22 ⟨Nat.le_of_ble_eq_true rfl, Nat.le_of_ble_eq_true rfl⟩ (fun H locs hP hS => ?_)
  refine lv_if_eq (tgt := 32) hx hb dX9_isSound_25 (by decide) (fun c => absurd c (by decide)) (fun _ => ?_)
  refine lv_iconst (v := 1) hx hb dX9_isSound_28 (by decide) ?_
  refine lv_goto (tgt := 33) hx hb dX9_isSound_29 (by decide) ?_
  exact W.zret hx hb hr (by decide) (fun t ht hW => ⟨rfl, hS.F ht⟩) hS.2.2 dX9_isSound_33

theorem iw_X9_shutGreedyDevices_RX1 : ∀ w ∈ u_ws RX1 TX1 20, w ∈ wsX9_shutGreedyDevices := by decide +kernel
theorem iw_X9_shutGreedyDevices_RX9 : ∀ w ∈ u_ws RX9 TX9 13, w ∈ wsX9_shutGreedyDevices := by decide +kernel
set_option maxRecDepth 100000 in
set_option maxHeartbeats 4000000 in
theorem c_greedy (l : Launch) (D : va_G) (cy : Nat → ClassId) {ad : Nat → Nat} {rw_ : Nat → Nat → Option Nat} {w : va_W} (F : FrC cy ad rw_ w) : RO l D cy w yX9_shutGreedyDevices wsX9_shutGreedyDevices 0 0 [.ref (ad 0)] none := by
  refine ro_ofW (cc := cX9_shutGreedyDevices) (maxL := 3) (ret := none) (lv := [(0, .ref (ad 0))]) (by decide) rfl (Nat.le_of_ble_eq_true rfl) rfl ?_
  intro p e s m below meth c ls hx hb hr hml hown hlocks hname hts hv hl
  have hown : s.vm.findClass RX9 = some m.cls := hown
  obtain ⟨hP, hK, hN⟩ := hv
  have hS : va_S (fun _ => False) s.heap s.heap [] := va_S.rf
  refine lv_iconst (v := 1) hx hb dX9_shutGreedyDevices_0 (by decide) ?_
  refine lv_istore_n (lv' := [(1, .int 1), (0, .ref (ad 0))]) hx hb dX9_shutGreedyDevices_1 rfl hl (by decide) rfl (fun ls hl => ?_)
  refine ro_loop (w := w) 16 1 (fun i => [(1, .int (nI i)), (0, .ref (ad 0))]) ?_ (by decide) hP hS (lv_sub hl [0, 1] rfl)
  intro i hi1 hi ih_i H locs ls hP hS hl
  refine lv_iload_n hx hb dX9_shutGreedyDevices_2 rfl (lv_at hl 0 rfl) ?_
  refine lv_bipush (v := 16) hx hb dX9_shutGreedyDevices_3 (by decide) ?_
  refine lv_icmp_ge (tgt := 48) hx hb dX9_shutGreedyDevices_5 (by decide) (fun c5 => ?_) (fun c5 => ?_)
  · obtain rfl : i = 16 := my_exit (N := 16) (by decide) (by decide) hi c5
    exact W.vret hx hb hr (fun t ht hW => ⟨rfl, hS.F ht⟩) hS.2.2 dX9_shutGreedyDevices_48
  · have hi : i < 16 := my_cont (N := 16) (by decide) (by decide) hi c5
    refine lv_aload_n hx hb dX9_shutGreedyDevices_8 rfl (lv_at hl 1 rfl) ?_
    obtain ⟨k_1, hk_1⟩ := frc_hub F
    refine va_get (D := D) (ci := 14) (v := .ref (ad 1)) (C := RX9) (T := TX9) (N := 13) hx hb hts iw_X9_shutGreedyDevices_RX9 hown hK hP k_1 hk_1 rfl 0 (by decide) (hts (.fieldLink RX9 11 "Hubcascade" "devices" "[LHubcascade$Device;") (by decide +kernel)) (fun _ h9 => h9) rfl dX9_shutGreedyDevices_9 ?_
    refine lv_iload_n hx hb dX9_shutGreedyDevices_12 rfl (lv_at hl 0 rfl) ?_
    obtain ⟨k_2, hk_2⟩ := frc_dv F
    refine my_ald hx hb hK hP k_2 4 hk_2 rfl (i := nI i) (j := i) (r := ad (100 + i)) rfl hi (by decide) (frc_dvr F i hi) dX9_shutGreedyDevices_13 ?_
    refine lv_astore_n (lv' := [(2, .ref (ad (100 + i))), (1, .int (nI i)), (0, .ref (ad 0))]) hx hb dX9_shutGreedyDevices_14 rfl hl (by decide) rfl (fun ls hl => ?_)
    refine lv_aload_n hx hb dX9_shutGreedyDevices_15 rfl (lv_at hl 0 rfl) ?_
    obtain ⟨k_3, hk_3⟩ := frc_di F i hi1 hi
    refine va_getN (D := D) (ci := 6) (v := .int 117) (C := RX1) (T := TX1) (N := 20) hx hb hts iw_X9_shutGreedyDevices_RX1 hown hK hP k_3 hk_3 rfl 7 (by decide) (va_Nw.use rfl (hN.1 _ nf_38)) (fun _ h9 => h9) rfl dX9_shutGreedyDevices_16 ?_
    refine lv_bipush (v := 99) hx hb dX9_shutGreedyDevices_19 (by decide) ?_
    refine lv_icmp_ne (tgt := 42) hx hb dX9_shutGreedyDevices_21 (by decide) (fun _ => ?_) (fun c => absurd c (by decide))
    refine lv_iinc (v := nI (i + 1)) (lv' := [(1, .int (nI (i + 1))), (2, .ref (ad (100 + i))), (0, .ref (ad 0))]) hx hb dX9_shutGreedyDevices_42 hl (k := 1) rfl (nI_1 _) (by decide) rfl (fun ls hl => ?_)
    refine lv_goto (tgt := 2) hx hb dX9_shutGreedyDevices_45 (by decide) ?_
    exact ih_i hi _ _ _ hP hS (lv_sub hl [0, 2] rfl)

theorem iw_X9_canGo_RX5 : ∀ w ∈ u_ws RX5 TX5 14, w ∈ wsX9_canGo := by decide +kernel
set_option maxRecDepth 100000 in
set_option maxHeartbeats 4000000 in
theorem c_canGo (l : Launch) (D : va_G) (cy : Nat → ClassId) {ad : Nat → Nat} {rw_ : Nat → Nat → Option Nat} {w : va_W} (F : FrC cy ad rw_ w) (j : Nat) (hj : j < 12) : RO l D cy w yX9_canGo wsX9_canGo 0 0 [.ref (ad 0), .ref (ad (600 + j))] (some (.int 0)) := by
  refine ro_ofW (cc := cX9_canGo) (maxL := 6) (ret := (some .boolean)) (lv := [(0, .ref (ad 0)), (1, .ref (ad (600 + j)))]) (by decide) rfl (Nat.le_of_ble_eq_true rfl) rfl ?_
  intro p e s m below meth c ls hx hb hr hml hown hlocks hname hts hv hl
  have hown : s.vm.findClass RX9 = some m.cls := hown
  obtain ⟨hP, hK, hN⟩ := hv
  have hS : va_S (fun _ => False) s.heap s.heap [] := va_S.rf
  refine lv_aload_n hx hb dX9_canGo_0 rfl (lv_at hl 1 rfl) ?_
  obtain ⟨k_1, hk_1⟩ := frc_pi F j hj
  refine va_getN (D := D) (ci := 10) (v := .null) (C := RX5) (T := TX5) (N := 14) hx hb hts iw_X9_canGo_RX5 hown hK hP k_1 hk_1 rfl 1 (by decide) (va_Nw.use rfl (hN.1 _ nf_65)) (fun _ h9 => h9) rfl dX9_canGo_1 ?_
  refine lv_astore_nN (lv' := [(2, .null), (0, .ref (ad 0)), (1, .ref (ad (600 + j)))]) hx hb dX9_canGo_4 rfl hl (by decide) rfl (fun ls hl => ?_)
  refine lv_aload_n hx hb dX9_canGo_5 rfl (lv_at hl 2 rfl) ?_
  refine va_getN (D := D) (ci := 10) (v := .null) (C := RX5) (T := TX5) (N := 14) hx hb hts iw_X9_canGo_RX5 hown hK hP k_1 hk_1 rfl 2 (by decide) (va_Nw.use rfl (hN.1 _ nf_66)) (fun _ h9 => h9) rfl dX9_canGo_6 ?_
  refine lv_astore_nN (lv' := [(3, .null), (2, .null), (0, .ref (ad 0)), (1, .ref (ad (600 + j)))]) hx hb dX9_canGo_9 rfl hl (by decide) rfl (fun ls hl => ?_)
  refine lv_aload_nN hx hb dX9_canGo_10 rfl (lv_at hl 1 rfl) ?_
  refine lv_ifnullN (tgt := 32) hx hb dX9_canGo_11 (by decide) ?_
  refine lv_iconst (v := 0) hx hb dX9_canGo_32 (by decide) ?_
  exact W.zret hx hb hr (by decide) (fun t ht hW => ⟨rfl, hS.F ht⟩) hS.2.2 dX9_canGo_33

theorem iw_X9_nextBulkPipe_RX5 : ∀ w ∈ u_ws RX5 TX5 14, w ∈ wsX9_nextBulkPipe := by decide +kernel
theorem iw_X9_nextBulkPipe_RX9 : ∀ w ∈ u_ws RX9 TX9 13, w ∈ wsX9_nextBulkPipe := by decide +kernel
set_option maxRecDepth 100000 in
set_option maxHeartbeats 4000000 in
theorem c_nextBulk (l : Launch) (D : va_G) (cy : Nat → ClassId) {ad : Nat → Nat} {rw_ : Nat → Nat → Option Nat} {w : va_W} (F : FrC cy ad rw_ w) : RO l D cy w yX9_nextBulkPipe wsX9_nextBulkPipe 1 25 [.ref (ad 0)] (some (.null)) := by
  refine ro_ofW (cc := cX9_nextBulkPipe) (maxL := 3) (ret := (some (.object "Hubcascade$Pipe"))) (lv := [(0, .ref (ad 0))]) (by decide) rfl (Nat.le_of_ble_eq_true rfl) rfl ?_
  intro p e s m below meth c ls hx hb hr hml hown hlocks hname hts hv hl
  have hown : s.vm.findClass RX9 = some m.cls := hown
  obtain ⟨hP, hK, hN⟩ := hv
  have hS : va_S (fun _ => False) s.heap s.heap [] := va_S.rf
  refine lv_iconst (v := 1) hx hb dX9_nextBulkPipe_0 (by decide) ?_
  refine lv_istore_n (lv' := [(1, .int 1), (0, .ref (ad 0))]) hx hb dX9_nextBulkPipe_1 rfl hl (by decide) rfl (fun ls hl => ?_)
  refine ro_loop (w := w) 13 1 (fun i => [(1, .int (nI i)), (0, .ref (ad 0))]) ?_ (by decide) hP hS (lv_sub hl [0, 1] rfl)
  intro i hi1 hi ih_i H locs ls hP hS hl
  refine lv_iload_n hx hb dX9_nextBulkPipe_2 rfl (lv_at hl 0 rfl) ?_
  refine lv_bipush (v := 12) hx hb dX9_nextBulkPipe_3 (by decide) ?_
  refine lv_icmp_gt (tgt := 55) hx hb dX9_nextBulkPipe_5 (by decide) (fun c5 => ?_) (fun c5 => ?_)
  · obtain rfl : i = 13 := my_exitgt (N := 12) (by decide) (by decide) hi c5
    refine lv_null hx hb dX9_nextBulkPipe_55 ?_
    exact W.aret hx hb hr (Or.inl ⟨_, rfl⟩) (Or.inl rfl) (fun t ht hW => ⟨rfl, hS.F ht⟩) hS.2.2 dX9_nextBulkPipe_56
  · have hi : i < 13 := my_contgt (N := 12) (by decide) (by decide) hi c5
    refine lv_aload_n hx hb dX9_nextBulkPipe_8 rfl (lv_at hl 1 rfl) ?_
    obtain ⟨k_1, hk_1⟩ := frc_hub F
    refine va_get (D := D) (ci := 14) (v := .ref (ad 4)) (C := RX9) (T := TX9) (N := 13) hx hb hts iw_X9_nextBulkPipe_RX9 hown hK hP k_1 hk_1 rfl 5 (by decide) (hts (.fieldLink RX9 24 "Hubcascade" "pipes" "[LHubcascade$Pipe;") (by decide +kernel)) (fun _ h9 => h9) rfl dX9_nextBulkPipe_9 ?_
    refine lv_aload_n hx hb dX9_nextBulkPipe_12 rfl (lv_at hl 1 rfl) ?_
    refine va_get (D := D) (ci := 14) (v := .int 11) (C := RX9) (T := TX9) (N := 13) hx hb hts iw_X9_nextBulkPipe_RX9 hown hK hP k_1 hk_1 rfl 6 (by decide) (hts (.fieldLink RX9 28 "Hubcascade" "lastTurn" "I") (by decide +kernel)) (fun _ h9 => h9) rfl dX9_nextBulkPipe_13 ?_
    refine lv_iload_n hx hb dX9_nextBulkPipe_16 rfl (lv_at hl 0 rfl) ?_
    refine lv_iadd hx hb dX9_nextBulkPipe_17 ?_
    refine lv_topi (fun y ey => ?_)
    obtain rfl : y = nI (11 + i) := ey.trans (nI_add 11 i)
    refine lv_bipush (v := 12) hx hb dX9_nextBulkPipe_18 (by decide) ?_
    refine lv_irem hx hb dX9_nextBulkPipe_20 (by decide) ?_
    obtain ⟨j, hj, ej⟩ : ∃ j, j < 12 ∧ (11 + i) % 12 = j := ⟨_, Nat.mod_lt _ (by decide), rfl⟩
    refine lv_topi (fun y ey => ?_)
    obtain rfl : y = nI j := ey.trans ((pk_rem (by omega) (by decide) (by decide)).trans (by rw [ej]))
    obtain ⟨k_2, hk_2⟩ := frc_pv F
    refine my_ald hx hb hK hP k_2 6 hk_2 rfl (i := nI j) (j := j) (r := ad (600 + j)) rfl hj (by decide) (frc_pvr F j hj) dX9_nextBulkPipe_21 ?_
    refine lv_astore_n (lv' := [(2, .ref (ad (600 + j))), (1, .int (nI i)), (0, .ref (ad 0))]) hx hb dX9_nextBulkPipe_22 rfl hl (by decide) rfl (fun ls hl => ?_)
    refine lv_aload_n hx hb dX9_nextBulkPipe_23 rfl (lv_at hl 0 rfl) ?_
    obtain ⟨k_3, hk_3⟩ := frc_pi F j hj
    refine va_getN (D := D) (ci := 10) (v := .int 98) (C := RX5) (T := TX5) (N := 14) hx hb hts iw_X9_nextBulkPipe_RX5 hown hK hP k_3 hk_3 rfl 3 (by decide) (va_Nw.use rfl (hN.1 _ nf_67)) (fun _ h9 => h9) rfl dX9_nextBulkPipe_24 ?_
    refine lv_bipush (v := 98) hx hb dX9_nextBulkPipe_27 (by decide) ?_
    refine lv_icmp_ne (tgt := 49) hx hb dX9_nextBulkPipe_29 (by decide) (fun c => absurd (by decide) c) (fun _ => ?_)
    refine lv_aload_n hx hb dX9_nextBulkPipe_32 rfl (lv_at hl 0 rfl) ?_
    refine va_getN (D := D) (ci := 10) (v := .int 0) (C := RX5) (T := TX5) (N := 14) hx hb hts iw_X9_nextBulkPipe_RX5 hown hK hP k_3 hk_3 rfl 10 (by decide) (va_Nw.use rfl (hN.1 _ nf_74)) (fun _ h9 => h9) rfl dX9_nextBulkPipe_33 ?_
    refine lv_if_ne (tgt := 49) hx hb dX9_nextBulkPipe_36 (by decide) (fun c => absurd (by decide) c) (fun _ => ?_)
    refine lv_aload_n hx hb dX9_nextBulkPipe_39 rfl (lv_at hl 2 rfl) ?_
    refine lv_aload_n hx hb dX9_nextBulkPipe_40 rfl (lv_at hl 0 rfl) ?_
    refine ro_callV (As := [.ref (ad (600 + j))]) (rest := []) ⟨hx, hb, hml, hown, hts⟩ (c_canGo l D cy F j hj) (cwV 1 hts gX9_nextBulkPipe_X9_canGo rfl rfl rfl (by decide +kernel) ⟨by decide, by decide⟩) hK hN hP hS (ci := 14) rfl hk_1 rfl rfl hl.1 rfl (Nat.le_of_ble_eq_true rfl) dX9_nextBulkPipe_41 ⟨Nat.le_of_ble_eq_true rfl, Nat.le_of_ble_eq_true rfl⟩ (fun H locs hP hS => ?_)
    refine lv_if_eq (tgt := 49) hx hb dX9_nextBulkPipe_44 (by decide) (fun _ => ?_) (fun c => absurd (by decide) c)
    refine lv_iinc (v := nI (i + 1)) (lv' := [(1, .int (nI (i + 1))), (2, .ref (ad (600 + j))), (0, .ref (ad 0))]) hx hb dX9_nextBulkPipe_49 hl (k := 1) rfl (nI_1 _) (by decide) rfl (fun ls hl => ?_)
    refine lv_goto (tgt := 2) hx hb dX9_nextBulkPipe_52 (by decide) ?_
    exact ih_i hi _ _ _ hP hS (lv_sub hl [0, 2] rfl)

theorem iw_X5_isDueIn_RX5 : ∀ w ∈ u_ws RX5 TX5 14, w ∈ wsX5_isDueIn := by decide +kernel
set_option maxRecDepth 100000 in
set_option maxHeartbeats 4000000 in
theorem c_isDueIn (l : Launch) (D : va_G) (cy : Nat → ClassId) {ad : Nat → Nat} {rw_ : Nat → Nat → Option Nat} {w : va_W} (F : FrC cy ad rw_ w) (j : Nat) (hj : j < 12) : RO l D cy w yX5_isDueIn wsX5_isDueIn 0 0 [.ref (ad (600 + j)), .int 1] (some (.int 0)) := by
  refine ro_ofW (cc := cX5_isDueIn) (maxL := 2) (ret := (some .boolean)) (lv := [(0, .ref (ad (600 + j))), (1, .int 1)]) (by decide) rfl (Nat.le_of_ble_eq_true rfl) rfl ?_
  intro p e s m below meth c ls hx hb hr hml hown hlocks hname hts hv hl
  have hown : s.vm.findClass RX5 = some m.cls := hown
  obtain ⟨hP, hK, hN⟩ := hv
  have hS : va_S (fun _ => False) s.heap s.heap [] := va_S.rf
  refine lv_iload_n hx hb dX5_isDueIn_0 rfl (lv_at hl 1 rfl) ?_
  refine lv_aload_n hx hb dX5_isDueIn_1 rfl (lv_at hl 0 rfl) ?_
  obtain ⟨k_1, hk_1⟩ := frc_pi F j hj
  refine va_get (D := D) (ci := 10) (v := .int 1) (C := RX5) (T := TX5) (N := 14) hx hb hts iw_X5_isDueIn_RX5 hown hK hP k_1 hk_1 rfl 4 (by decide) (hts (.fieldLink RX5 15 "Hubcascade$Pipe" "interval" "I") (by decide +kernel)) (fun _ h9 => h9) rfl dX5_isDueIn_2 ?_
  refine lv_iconst (v := 1) hx hb dX5_isDueIn_5 (by decide) ?_
  refine lv_isub hx hb dX5_isDueIn_6 ?_
  refine lv_topi (fun y ey => ?_)
  obtain rfl : y = 0 := ey.trans (by decide)
  refine lv_iand hx hb dX5_isDueIn_7 ?_
  refine lv_topi (fun y ey => ?_)
  obtain rfl : y = 0 := ey.trans (by decide)
  refine lv_aload_n hx hb dX5_isDueIn_8 rfl (lv_at hl 0 rfl) ?_
  refine va_get (D := D) (ci := 10) (v := .int (-1)) (C := RX5) (T := TX5) (N := 14) hx hb hts iw_X5_isDueIn_RX5 hown hK hP k_1 hk_1 rfl 5 (by decide) (hts (.fieldLink RX5 19 "Hubcascade$Pipe" "phase" "I") (by decide +kernel)) (fun _ h9 => h9) rfl dX5_isDueIn_9 ?_
  refine lv_icmp_ne (tgt := 19) hx hb dX5_isDueIn_12 (by decide) (fun _ => ?_) (fun c => absurd c (by decide))
  refine lv_iconst (v := 0) hx hb dX5_isDueIn_19 (by decide) ?_
  exact W.zret hx hb hr (by decide) (fun t ht hW => ⟨rfl, hS.F ht⟩) hS.2.2 dX5_isDueIn_20

theorem iw_X9_checksum_RX0 : ∀ w ∈ u_ws RX0 TX0 4, w ∈ wsX9_checksum := by decide +kernel
theorem iw_X9_checksum_RX1 : ∀ w ∈ u_ws RX1 TX1 20, w ∈ wsX9_checksum := by decide +kernel
theorem iw_X9_checksum_RX9 : ∀ w ∈ u_ws RX9 TX9 13, w ∈ wsX9_checksum := by decide +kernel
set_option maxRecDepth 100000 in
set_option maxHeartbeats 4000000 in
theorem c_checksum_ok (l : Launch) (D : va_G) (cy : Nat → ClassId) {ad : Nat → Nat} {rw_ : Nat → Nat → Option Nat} {w : va_W} (F : FrC cy ad rw_ w) : RO l D cy w yX9_checksum wsX9_checksum 0 0 [.ref (ad 0)] (some (.long 316)) := by
  refine ro_ofW (cc := cX9_checksum) (maxL := 5) (ret := (some .long)) (lv := [(0, .ref (ad 0))]) (by decide) rfl (Nat.le_of_ble_eq_true rfl) rfl ?_
  intro p e s m below meth c ls hx hb hr hml hown hlocks hname hts hv hl
  have hown : s.vm.findClass RX9 = some m.cls := hown
  obtain ⟨hP, hK, hN⟩ := hv
  have hS : va_S (fun _ => False) s.heap s.heap [] := va_S.rf
  refine lv_ldc2 hx hb hown (hts (.constantLong RX9 511 (7)) (by decide +kernel)) dX9_checksum_0 ?_
  refine lv_lstore_n (lv' := [(1, .long 7), (0, .ref (ad 0))]) hx hb dX9_checksum_3 rfl hl (by decide) rfl (fun ls hl => ?_)
  refine lv_iconst (v := 0) hx hb dX9_checksum_4 (by decide) ?_
  refine lv_istore_n (lv' := [(3, .int 0), (1, .long 7), (0, .ref (ad 0))]) hx hb dX9_checksum_5 rfl hl (by decide) rfl (fun ls hl => ?_)
  refine lv_iload_n hx hb dX9_checksum_6 rfl (lv_at hl 0 rfl) ?_
  refine lv_aload_n hx hb dX9_checksum_7 rfl (lv_at hl 2 rfl) ?_
  obtain ⟨k_1, hk_1⟩ := frc_hub F
  refine va_get (D := D) (ci := 14) (v := .int 1) (C := RX9) (T := TX9) (N := 13) hx hb hts iw_X9_checksum_RX9 hown hK hP k_1 hk_1 rfl 1 (by decide) (hts (.fieldLink RX9 81 "Hubcascade" "deviceCount" "I") (by decide +kernel)) (fun _ h9 => h9) rfl dX9_checksum_8 ?_
  refine lv_icmp_ge (tgt := 64) hx hb dX9_checksum_11 (by decide) (fun c => absurd c (by decide)) (fun _ => ?_)
  refine lv_iload_n hx hb dX9_checksum_14 rfl (lv_at hl 0 rfl) ?_
  refine lv_bipush (v := 16) hx hb dX9_checksum_15 (by decide) ?_
  refine lv_icmp_ge (tgt := 64) hx hb dX9_checksum_17 (by decide) (fun c => absurd c (by decide)) (fun _ => ?_)
  refine lv_aload_n hx hb dX9_checksum_20 rfl (lv_at hl 2 rfl) ?_
  refine va_get (D := D) (ci := 14) (v := .ref (ad 1)) (C := RX9) (T := TX9) (N := 13) hx hb hts iw_X9_checksum_RX9 hown hK hP k_1 hk_1 rfl 0 (by decide) (hts (.fieldLink RX9 11 "Hubcascade" "devices" "[LHubcascade$Device;") (by decide +kernel)) (fun _ h9 => h9) rfl dX9_checksum_21 ?_
  refine lv_iload_n hx hb dX9_checksum_24 rfl (lv_at hl 0 rfl) ?_
  obtain ⟨k_2, hk_2⟩ := frc_dv F
  refine my_ald hx hb hK hP k_2 4 hk_2 rfl (i := 0) (j := 0) (r := ad 100) (by decide) (by decide) (by decide) (frc_dvr F 0 (by decide)) dX9_checksum_25 ?_
  refine lv_astore (lv' := [(4, .ref (ad 100)), (3, .int 0), (1, .long 7), (0, .ref (ad 0))]) hx hb dX9_checksum_26 hl (by decide) rfl (fun ls hl => ?_)
  refine lv_ldc2 hx hb hown (hts (.constantLong RX9 513 (31)) (by decide +kernel)) dX9_checksum_28 ?_
  refine lv_lload_n hx hb dX9_checksum_31 rfl (lv_at hl 2 rfl) ?_
  refine lv_lmul hx hb dX9_checksum_32 ?_
  refine lv_topl (fun y ey => ?_)
  obtain rfl : y = 217 := ey.trans (by decide)
  refine lv_aload hx hb dX9_checksum_33 (lv_at hl 0 rfl) ?_
  obtain ⟨k_3, hk_3⟩ := frc_d0 F
  refine va_getN (D := D) (ci := 6) (v := .int 99) (C := RX1) (T := TX1) (N := 20) hx hb hts iw_X9_checksum_RX1 hown hK hP k_3 hk_3 rfl 7 (by decide) (va_Nw.use rfl (hN.1 _ nf_38)) (fun _ h9 => h9) rfl dX9_checksum_35 ?_
  refine lv_i2l (v := 99) hx hb dX9_checksum_38 (by decide) ?_
  refine lv_ladd hx hb dX9_checksum_39 ?_
  refine lv_topl (fun y ey => ?_)
  obtain rfl : y = 316 := ey.trans (by decide)
  refine lv_aload hx hb dX9_checksum_40 (lv_at hl 0 rfl) ?_
  refine va_getN (D := D) (ci := 6) (v := .int 0) (C := RX1) (T := TX1) (N := 20) hx hb hts iw_X9_checksum_RX1 hown hK hP k_3 hk_3 rfl 13 (by decide) (va_Nw.use rfl (hN.1 _ nf_44)) (fun _ h9 => h9) rfl dX9_checksum_42 ?_
  refine lv_i2l (v := 0) hx hb dX9_checksum_45 (by decide) ?_
  refine lv_ladd hx hb dX9_checksum_46 ?_
  refine lv_topl (fun y ey => ?_)
  obtain rfl : y = 316 := ey.trans (by decide)
  refine lv_bipush (v := 100) hx hb dX9_checksum_47 (by decide) ?_
  refine lv_aload hx hb dX9_checksum_49 (lv_at hl 0 rfl) ?_
  refine va_getN (D := D) (ci := 6) (v := .int 0) (C := RX1) (T := TX1) (N := 20) hx hb hts iw_X9_checksum_RX1 hown hK hP k_3 hk_3 rfl 15 (by decide) (va_Nw.use rfl (hN.1 _ nf_46)) (fun _ h9 => h9) rfl dX9_checksum_51 ?_
  refine lv_imul hx hb dX9_checksum_54 ?_
  refine lv_topi (fun y ey => ?_)
  obtain rfl : y = 0 := ey.trans (by decide)
  refine lv_i2l (v := 0) hx hb dX9_checksum_55 (by decide) ?_
  refine lv_ladd hx hb dX9_checksum_56 ?_
  refine lv_topl (fun y ey => ?_)
  obtain rfl : y = 316 := ey.trans (by decide)
  refine lv_lstore_n (lv' := [(1, .long 316), (4, .ref (ad 100)), (3, .int 0), (0, .ref (ad 0))]) hx hb dX9_checksum_57 rfl hl (by decide) rfl (fun ls hl => ?_)
  refine lv_iinc (v := 1) (lv' := [(3, .int 1), (1, .long 316), (4, .ref (ad 100)), (0, .ref (ad 0))]) hx hb dX9_checksum_58 hl (k := 2) rfl (by decide) (by decide) rfl (fun ls hl => ?_)
  refine lv_goto (tgt := 6) hx hb dX9_checksum_61 (by decide) ?_
  refine lv_iload_n hx hb dX9_checksum_6 rfl (lv_at hl 0 rfl) ?_
  refine lv_aload_n hx hb dX9_checksum_7 rfl (lv_at hl 3 rfl) ?_
  refine va_get (D := D) (ci := 14) (v := .int 1) (C := RX9) (T := TX9) (N := 13) hx hb hts iw_X9_checksum_RX9 hown hK hP k_1 hk_1 rfl 1 (by decide) (hts (.fieldLink RX9 81 "Hubcascade" "deviceCount" "I") (by decide +kernel)) (fun _ h9 => h9) rfl dX9_checksum_8 ?_
  refine lv_icmp_ge (tgt := 64) hx hb dX9_checksum_11 (by decide) (fun _ => ?_) (fun c => absurd (by decide) c)
  refine lv_iconst (v := 0) hx hb dX9_checksum_64 (by decide) ?_
  refine lv_istore_n (lv' := [(3, .int 0), (1, .long 316), (4, .ref (ad 100)), (0, .ref (ad 0))]) hx hb dX9_checksum_65 rfl hl (by decide) rfl (fun ls hl => ?_)
  refine lv_iload_n hx hb dX9_checksum_66 rfl (lv_at hl 0 rfl) ?_
  refine lv_aload_n hx hb dX9_checksum_67 rfl (lv_at hl 3 rfl) ?_
  refine va_get (D := D) (ci := 14) (v := .ref (ad 7)) (C := RX9) (T := TX9) (N := 13) hx hb hts iw_X9_checksum_RX9 hown hK hP k_1 hk_1 rfl 9 (by decide) (hts (.fieldLink RX9 39 "Hubcascade" "received" "LHubcascade$ByteRow;") (by decide +kernel)) (fun _ h9 => h9) rfl dX9_checksum_68 ?_
  obtain ⟨k_4, hk_4⟩ := frc_re F
  refine va_getN (D := D) (ci := 5) (v := .int 0) (C := RX0) (T := TX0) (N := 4) hx hb hts iw_X9_checksum_RX0 hown hK hP k_4 hk_4 rfl 2 (by decide) (va_Nw.use rfl (hN.1 _ nf_0)) (fun _ h9 => h9) rfl dX9_checksum_71 ?_
  refine lv_icmp_ge (tgt := 99) hx hb dX9_checksum_74 (by decide) (fun _ => ?_) (fun c => absurd (by decide) c)
  refine lv_lload_n hx hb dX9_checksum_99 rfl (lv_at hl 1 rfl) ?_
  exact W.lret hx hb hr (fun t ht hW => ⟨rfl, hS.F ht⟩) hS.2.2 dX9_checksum_100

set_option maxRecDepth 100000 in
set_option maxHeartbeats 4000000 in
theorem c_checkBit5 (l : Launch) (D : va_G) (cy : Nat → ClassId) (w : va_W) (a b : Int32) : RO l D cy w yX9_checkBit wsX9_checkBit 0 0 [.int a, .int b, .int 4, .int 5] (some (.int (ck5 a b))) := by
  refine ro_ofW (cc := cX9_checkBit) (maxL := 6) (ret := (some .int)) (lv := [(0, .int a), (1, .int b), (2, .int 4), (3, .int 5)]) (by decide) rfl (Nat.le_of_ble_eq_true rfl) rfl ?_
  intro p e s m below meth c ls hx hb hr hml hown hlocks hname hts hv hl
  have hown : s.vm.findClass RX9 = some m.cls := hown
  obtain ⟨hP, hK, hN⟩ := hv
  have hS : va_S (fun _ => False) s.heap s.heap [] := va_S.rf
  refine lv_iload_n hx hb dX9_checkBit_0 rfl (lv_at hl 0 rfl) ?_
  refine lv_iload_n hx hb dX9_checkBit_1 rfl (lv_at hl 2 rfl) ?_
  refine lv_ishr hx hb dX9_checkBit_2 ?_
  refine lv_topi (fun y ey => ?_)
  obtain rfl : y = a >>> ((4 : Int32) &&& 31) := ey.trans rfl
  refine lv_iconst (v := 1) hx hb dX9_checkBit_3 (by decide) ?_
  refine lv_iand hx hb dX9_checkBit_4 ?_
  refine lv_topi (fun y ey => ?_)
  obtain rfl : y = (a >>> ((4 : Int32) &&& 31)) &&& 1 := ey.trans rfl
  refine lv_istore (lv' := [(4, .int ((a >>> ((4 : Int32) &&& 31)) &&& 1)), (0, .int a), (1, .int b), (2, .int 4), (3, .int 5)]) hx hb dX9_checkBit_5 hl (by decide) rfl (fun ls hl => ?_)
  refine lv_iload_n hx hb dX9_checkBit_7 rfl (lv_at hl 1 rfl) ?_
  refine lv_iconst (v := 1) hx hb dX9_checkBit_8 (by decide) ?_
  refine lv_ishl hx hb dX9_checkBit_9 ?_
  refine lv_topi (fun y ey => ?_)
  obtain rfl : y = a <<< ((1 : Int32) &&& 31) := ey.trans rfl
  refine lv_iconst (v := 2) hx hb dX9_checkBit_10 (by decide) ?_
  refine lv_iload_n hx hb dX9_checkBit_11 rfl (lv_at hl 3 rfl) ?_
  refine lv_ishl hx hb dX9_checkBit_12 ?_
  refine lv_topi (fun y ey => ?_)
  obtain rfl : y = 32 := ey.trans (by decide)
  refine lv_iconst (v := 1) hx hb dX9_checkBit_13 (by decide) ?_
  refine lv_isub hx hb dX9_checkBit_14 ?_
  refine lv_topi (fun y ey => ?_)
  obtain rfl : y = 31 := ey.trans (by decide)
  refine lv_iand hx hb dX9_checkBit_15 ?_
  refine lv_topi (fun y ey => ?_)
  obtain rfl : y = (a <<< ((1 : Int32) &&& 31)) &&& 31 := ey.trans rfl
  refine lv_istore (lv' := [(5, .int ((a <<< ((1 : Int32) &&& 31)) &&& 31)), (4, .int ((a >>> ((4 : Int32) &&& 31)) &&& 1)), (0, .int a), (1, .int b), (2, .int 4), (3, .int 5)]) hx hb dX9_checkBit_16 hl (by decide) rfl (fun ls hl => ?_)
  refine lv_iload hx hb dX9_checkBit_18 (lv_at hl 1 rfl) ?_
  refine lv_iload_n hx hb dX9_checkBit_20 rfl (lv_at hl 3 rfl) ?_
  refine lv_icmp_ne (tgt := 29) hx hb dX9_checkBit_21 (by decide) (fun c21 => ?_) (fun c21 => ?_)
  · refine lv_iload hx hb dX9_checkBit_29 (lv_at hl 0 rfl) ?_
    refine lv_iload_n hx hb dX9_checkBit_31 rfl (lv_at hl 5 rfl) ?_
    refine lv_ixor hx hb dX9_checkBit_32 ?_
    refine lv_topi (fun y ey => ?_)
    obtain rfl : y = ((a <<< ((1 : Int32) &&& 31)) &&& 31) ^^^ 5 := ey.trans rfl
    rw [show (((a <<< ((1 : Int32) &&& 31)) &&& 31) ^^^ 5) = (ck5 a b) from (by unfold ck5; first | rw [if_neg c21] | rw [if_pos c21])]
    exact W.iret hx hb hr (fun t ht hW => ⟨rfl, hS.F ht⟩) hS.2.2 dX9_checkBit_33
  · refine lv_iload hx hb dX9_checkBit_24 (lv_at hl 0 rfl) ?_
    refine lv_goto (tgt := 33) hx hb dX9_checkBit_26 (by decide) ?_
    rw [show ((a <<< ((1 : Int32) &&& 31)) &&& 31) = (ck5 a b) from (by unfold ck5; first | rw [if_neg c21] | rw [if_pos c21])]
    exact W.iret hx hb hr (fun t ht hW => ⟨rfl, hS.F ht⟩) hS.2.2 dX9_checkBit_33

set_option maxRecDepth 100000 in
set_option maxHeartbeats 4000000 in
theorem c_five_ok (l : Launch) (D : va_G) (cy : Nat → ClassId) {ad : Nat → Nat} {rw_ : Nat → Nat → Option Nat} {w : va_W} (F : FrC cy ad rw_ w) (b : Int32) (hw : ¬ b < 0 ∧ ¬ 2047 < b) : RO l D cy w yX9_five wsX9_five 1 25 [.ref (ad 0), .int b] (some (.int (31 - ck5s b 11))) := by
  refine ro_ofW (cc := cX9_five) (maxL := 4) (ret := (some .int)) (lv := [(0, .ref (ad 0)), (1, .int b)]) (by decide) rfl (Nat.le_of_ble_eq_true rfl) rfl ?_
  intro p e s m below meth c ls hx hb hr hml hown hlocks hname hts hv hl
  have hown : s.vm.findClass RX9 = some m.cls := hown
  obtain ⟨hP, hK, hN⟩ := hv
  have hS : va_S (fun _ => False) s.heap s.heap [] := va_S.rf
  refine lv_iload_n hx hb dX9_five_0 rfl (lv_at hl 1 rfl) ?_
  refine lv_iconst (v := 0) hx hb dX9_five_1 (by decide) ?_
  refine lv_sipush (v := 2047) hx hb dX9_five_2 (by decide) ?_
  refine ro_callS (As := [.int b, .int 0, .int 2047]) (rest := []) ⟨hx, hb, hml, hown, hts⟩ (c_isWithin_t l D cy w _ _ _ hw.1 hw.2) (va_cwS 3 hts gX9_five_X9_isWithin rfl rfl rfl (by decide +kernel) ⟨by decide, by decide⟩) hK hN hP hS rfl hl.1 rfl (Nat.le_of_ble_eq_true rfl) dX9_five_5 ⟨Nat.le_of_ble_eq_true rfl, Nat.le_of_ble_eq_true rfl⟩ (fun H locs hP hS => ?_)
  refine lv_if_ne (tgt := 22) hx hb dX9_five_8 (by decide) (fun _ => ?_) (fun c => absurd c (by decide))
  refine lv_bipush (v := 31) hx hb dX9_five_22 (by decide) ?_
  refine lv_istore_n (lv' := [(2, .int 31), (0, .ref (ad 0)), (1, .int b)]) hx hb dX9_five_24 rfl hl (by decide) rfl (fun ls hl => ?_)
  refine lv_iconst (v := 0) hx hb dX9_five_25 (by decide) ?_
  refine lv_istore_n (lv' := [(3, .int 0), (2, .int 31), (0, .ref (ad 0)), (1, .int b)]) hx hb dX9_five_26 rfl hl (by decide) rfl (fun ls hl => ?_)
  refine ro_loop (w := w) 11 0 (fun i => [(3, .int (nI i)), (2, .int (ck5s b i)), (0, .ref (ad 0)), (1, .int b)]) ?_ (by decide) hP hS (lv_sub hl [0, 1, 2, 3] rfl)
  intro i hi0 hi ih_i H locs ls hP hS hl
  refine lv_iload_n hx hb dX9_five_27 rfl (lv_at hl 0 rfl) ?_
  refine lv_bipush (v := 11) hx hb dX9_five_28 (by decide) ?_
  refine lv_icmp_ge (tgt := 51) hx hb dX9_five_30 (by decide) (fun c30 => ?_) (fun c30 => ?_)
  · obtain rfl : i = 11 := my_exit (N := 11) (by decide) (by decide) hi c30
    refine lv_bipush (v := 31) hx hb dX9_five_51 (by decide) ?_
    refine lv_iload_n hx hb dX9_five_53 rfl (lv_at hl 1 rfl) ?_
    refine lv_isub hx hb dX9_five_54 ?_
    refine lv_topi (fun y ey => ?_)
    obtain rfl : y = 31 - ck5s b 11 := ey.trans rfl
    exact W.iret hx hb hr (fun t ht hW => ⟨rfl, hS.F ht⟩) hS.2.2 dX9_five_55
  · have hi : i < 11 := my_cont (N := 11) (by decide) (by decide) hi c30
    refine lv_iload_n hx hb dX9_five_33 rfl (lv_at hl 1 rfl) ?_
    refine lv_iload_n hx hb dX9_five_34 rfl (lv_at hl 3 rfl) ?_
    refine lv_iload_n hx hb dX9_five_35 rfl (lv_at hl 0 rfl) ?_
    refine lv_ishr hx hb dX9_five_36 ?_
    refine lv_topi (fun y ey => ?_)
    obtain rfl : y = b >>> (nI i &&& 31) := ey.trans rfl
    refine lv_iconst (v := 1) hx hb dX9_five_37 (by decide) ?_
    refine lv_iand hx hb dX9_five_38 ?_
    refine lv_topi (fun y ey => ?_)
    obtain rfl : y = (b >>> (nI i &&& 31)) &&& 1 := ey.trans rfl
    refine lv_iconst (v := 4) hx hb dX9_five_39 (by decide) ?_
    refine lv_iconst (v := 5) hx hb dX9_five_40 (by decide) ?_
    refine ro_callS (As := [.int (ck5s b i), .int ((b >>> (nI i &&& 31)) &&& 1), .int 4, .int 5]) (rest := []) ⟨hx, hb, hml, hown, hts⟩ (c_checkBit5 l D cy w (ck5s b i) ((b >>> (nI i &&& 31)) &&& 1)) (va_cwS 4 hts gX9_five_X9_checkBit rfl rfl rfl (by decide +kernel) ⟨by decide, by decide⟩) hK hN hP hS rfl hl.1 rfl (Nat.le_of_ble_eq_true rfl) dX9_five_41 ⟨Nat.le_of_ble_eq_true rfl, Nat.le_of_ble_eq_true rfl⟩ (fun H locs hP hS => ?_)
    refine lv_istore_n (lv' := [(2, .int (ck5 (ck5s b i) ((b >>> (nI i &&& 31)) &&& 1))), (3, .int (nI i)), (0, .ref (ad 0)), (1, .int b)]) hx hb dX9_five_44 rfl hl (by decide) rfl (fun ls hl => ?_)
    refine lv_iinc (v := nI (i + 1)) (lv' := [(3, .int (nI (i + 1))), (2, .int (ck5 (ck5s b i) ((b >>> (nI i &&& 31)) &&& 1))), (0, .ref (ad 0)), (1, .int b)]) hx hb dX9_five_45 hl (k := 1) rfl (nI_1 _) (by decide) rfl (fun ls hl => ?_)
    refine lv_goto (tgt := 27) hx hb dX9_five_48 (by decide) ?_
    exact ih_i hi _ _ _ hP hS (lv_sub hl [0, 1, 2, 3] rfl)
