section CLK7
theorem dX9_closeBy_0 : decode cX9_closeBy 0 = .ok (.aload_n 1, 1) := by decide +kernel
theorem dX9_closeBy_1 : decode cX9_closeBy 1 = .ok (.getfield 546, 3) := by decide +kernel
theorem dX9_closeBy_4 : decode cX9_closeBy 4 = .ok (.astore_n 3, 1) := by decide +kernel
theorem dX9_closeBy_5 : decode cX9_closeBy 5 = .ok (.aload_n 1, 1) := by decide +kernel
theorem dX9_closeBy_6 : decode cX9_closeBy 6 = .ok (.getfield 350, 3) := by decide +kernel
theorem dX9_closeBy_9 : decode cX9_closeBy 9 = .ok (.astore 4, 2) := by decide +kernel
theorem dX9_closeBy_11 : decode cX9_closeBy 11 = .ok (.aload_n 3, 1) := by decide +kernel
theorem dX9_closeBy_12 : decode cX9_closeBy 12 = .ok (.ifnull 17, 3) := by decide +kernel
theorem dX9_closeBy_15 : decode cX9_closeBy 15 = .ok (.aload 4, 2) := by decide +kernel
theorem dX9_closeBy_17 : decode cX9_closeBy 17 = .ok (.ifnull 12, 3) := by decide +kernel
theorem dX9_closeBy_20 : decode cX9_closeBy 20 = .ok (.aload_n 0, 1) := by decide +kernel
theorem dX9_closeBy_21 : decode cX9_closeBy 21 = .ok (.aload_n 1, 1) := by decide +kernel
theorem dX9_closeBy_22 : decode cX9_closeBy 22 = .ok (.aload_n 3, 1) := by decide +kernel
theorem dX9_closeBy_23 : decode cX9_closeBy 23 = .ok (.aload 4, 2) := by decide +kernel
theorem dX9_closeBy_25 : decode cX9_closeBy 25 = .ok (.iconst (-1), 1) := by decide +kernel
theorem dX9_closeBy_26 : decode cX9_closeBy 26 = .ok (.invokevirtual 329, 3) := by decide +kernel
theorem dX9_closeBy_29 : decode cX9_closeBy 29 = .ok (.aload_n 1, 1) := by decide +kernel
theorem dX9_closeBy_30 : decode cX9_closeBy 30 = .ok (.getfield 356, 3) := by decide +kernel
theorem dX9_closeBy_33 : decode cX9_closeBy 33 = .ok (.istore 5, 2) := by decide +kernel
theorem dX9_closeBy_35 : decode cX9_closeBy 35 = .ok (.iconst 0, 1) := by decide +kernel
theorem dX9_closeBy_36 : decode cX9_closeBy 36 = .ok (.istore 6, 2) := by decide +kernel
theorem dX9_closeBy_38 : decode cX9_closeBy 38 = .ok (.iload 6, 2) := by decide +kernel
theorem dX9_closeBy_40 : decode cX9_closeBy 40 = .ok (.iload 5, 2) := by decide +kernel
theorem dX9_closeBy_42 : decode cX9_closeBy 42 = .ok (.if_icmp .ge 15, 3) := by decide +kernel
theorem dX9_closeBy_45 : decode cX9_closeBy 45 = .ok (.aload_n 0, 1) := by decide +kernel
theorem dX9_closeBy_46 : decode cX9_closeBy 46 = .ok (.aload_n 1, 1) := by decide +kernel
theorem dX9_closeBy_47 : decode cX9_closeBy 47 = .ok (.iload_n 2, 1) := by decide +kernel
theorem dX9_closeBy_48 : decode cX9_closeBy 48 = .ok (.invokevirtual 391, 3) := by decide +kernel
theorem dX9_closeBy_51 : decode cX9_closeBy 51 = .ok (.iinc 6 1, 3) := by decide +kernel
theorem dX9_closeBy_54 : decode cX9_closeBy 54 = .ok (.goto (-16), 3) := by decide +kernel
theorem dX9_closeBy_57 : decode cX9_closeBy 57 = .ok (.aload_n 1, 1) := by decide +kernel
theorem dX9_closeBy_58 : decode cX9_closeBy 58 = .ok (.invokevirtual 561, 3) := by decide +kernel
theorem dX9_closeBy_61 : decode cX9_closeBy 61 = .ok (.iload 5, 2) := by decide +kernel
theorem dX9_closeBy_63 : decode cX9_closeBy 63 = .ok (.ireturn, 1) := by decide +kernel
set_option maxRecDepth 100000 in
set_option maxHeartbeats 4000000 in
theorem k_close (l : Launch) (D : va_G) (cy : Nat → ClassId) {ad τ : List Nat} {Y : CY} {σ : SG} (hst : l.stackTraces = false) (hs : vi_s1 vSG τ) (hV : VL cy ad τ Y σ) {j d9 e9 : Nat} (hj : j < 12) (h1 : sgR σ (yp Y j) 1 = some d9) (h2 : sgR σ (yp Y j) 2 = some e9) (ch : Int32) (hc : sgF 1 ch) (sz : Nat) : clM l D cy ad τ Y σ sz yX9_closeBy (Cond.code yX9_closeBy cX9_closeBy 7 (some .int) :: vWall) 2 51 [.ref (yX Y), .ref (yp Y j), .int ch] (fun v s2 => (∃ x : Int32, v = some (.int x)) ∧ ∃ (z26 : Int32) (σ26 σ3 : SG), z26.toInt = hubC (sgI σ d9 11) (sgI σ e9 3).toInt ∧ resN Y σ (yp Y j) (-1 * (2 + sgI σ e9 3)) (-1 * z26) (sgI σ d9 12) 8 σ26 ∧ evJ Y (yp Y j) σ26 σ3 ∧ sgI σ3 (yp Y j) 13 = 0 ∧ sgPR (sgPR (sgPI σ3 e9 2 0) (yp Y j) 1 none) (yp Y j) 2 none = s2) := by
  refine cl_ofW (cc := cX9_closeBy) (maxL := 7) (ret := (some .int)) hV (by decide) rfl (Nat.le_of_ble_eq_true rfl) (lv := [(0, .ref (yX Y)), (1, .ref (yp Y j)), (2, .int ch)]) rfl (fun p e s m below meth c ls H hrt hnm F hB hl => ?_) sz
  have hx := F.1.1
  have hb := F.1.2.1
  have hown := F.1.2.2.2.1
  generalize hlo : ([] : List Loc) = locs at hB ⊢
  clear hlo
  have hp := hV.2.2.2.2.2.2.2.1 j hj
  have e0 : (0 : Int32).toInt = 0 := rfl
  have np : yp Y j ≠ yh Y ∧ yp Y j ≠ yk Y := ⟨fun z => by have := hp.1; rw [z, hV.2.2.2.2.2.2.2.2.2.2.1.1] at this; exact absurd this (by decide), fun z => by have := hp.1; rw [z, hV.2.2.2.2.2.2.2.2.2.2.1.2.2.1] at this; exact absurd this (by decide)⟩
  refine lv_aload_n hx hb dX9_closeBy_0 rfl (lv_at hl 1 rfl) ?_
  refine gr_X9_546 F hB dX9_closeBy_1 hp.1 h1 ?_
  refine lv_astore_n (lv' := [(3, .ref _), (0, .ref _), (1, .ref _), (2, .int _)]) hx hb dX9_closeBy_4 rfl hl (by decide) rfl (fun ls hl => ?_)
  refine lv_aload_n hx hb dX9_closeBy_5 rfl (lv_at hl 2 rfl) ?_
  refine gr_X9_350 F hB dX9_closeBy_6 hp.1 h2 ?_
  refine lv_astore (lv' := [(4, .ref _), (3, .ref _), (0, .ref _), (1, .ref _), (2, .int _)]) hx hb dX9_closeBy_9 hl (by decide) rfl (fun ls hl => ?_)
  refine lv_aload_n hx hb dX9_closeBy_11 rfl (lv_at hl 1 rfl) ?_
  refine lv_ifnull hx hb dX9_closeBy_12 ?_
  refine lv_aload hx hb dX9_closeBy_15 (lv_at hl 0 rfl) ?_
  refine lv_ifnull hx hb dX9_closeBy_17 ?_
  refine lv_aload_n hx hb dX9_closeBy_20 rfl (lv_at hl 2 rfl) ?_
  refine lv_aload_n hx hb dX9_closeBy_21 rfl (lv_at hl 3 rfl) ?_
  refine lv_aload_n hx hb dX9_closeBy_22 rfl (lv_at hl 1 rfl) ?_
  refine lv_aload hx hb dX9_closeBy_23 (lv_at hl 0 rfl) ?_
  refine lv_iconst (v := (-1)) hx hb dX9_closeBy_25 (by decide) ?_
  refine cl_callV (ci := 14) F hB (k_resF l D cy hB.2 hj (pi_dv hV hj h1) (pi_en hV hj h2) _ _) (cwV 4 F.1.2.2.2.2 (vgV (vm_5 _ (List.mem_of_getElem? (i := 23) rfl)) (vm_5 _ (List.mem_of_getElem? (i := 24) rfl)) (vm_5 _ (List.mem_of_getElem? (i := 25) rfl)) (vm_4 _ (List.mem_of_getElem? (i := 20) rfl)) (vm_5 _ (List.mem_of_getElem? (i := 9) rfl))) rfl rfl rfl ⟨rfl, by decide, by decide, by decide +kernel⟩ ⟨Nat.le_of_ble_eq_true rfl, Nat.le_of_ble_eq_true rfl⟩) rfl rfl (by decide) rfl hl.1 rfl (Nat.le_of_ble_eq_true rfl) dX9_closeBy_26 ⟨Nat.le_of_ble_eq_true rfl, Nat.le_of_ble_eq_true rfl⟩ hV.2.1.1 (fun H locs v σ26 hB hP => ?_)
  obtain ⟨rfl, z26, hz26, hN⟩ := hP
  refine lv_aload_n hx hb dX9_closeBy_29 rfl (lv_at hl 3 rfl) ?_
  have hV26 := hB.2
  have hp26 := hV26.2.2.2.2.2.2.2.1 j hj
  have hcn := VT_in (ci := 10) (k := 13) (t := 0) (lo := 0) (hi := 4) hV26.1 hp26.1 (by decide) rfl (by decide) (by decide +kernel)
  refine gf_X9_356 F hB dX9_closeBy_30 hp26.1 ?_
  refine lv_istore (lv' := [(5, .int _), (4, .ref _), (3, .ref _), (0, .ref _), (1, .ref _), (2, .int _)]) hx hb dX9_closeBy_33 hl (by decide) rfl (fun ls hl => ?_)
  refine lv_iconst (v := 0) hx hb dX9_closeBy_35 (by decide) ?_
  refine lv_istore (lv' := [(6, .int _), (5, .int _), (4, .ref _), (3, .ref _), (0, .ref _), (1, .ref _), (2, .int _)]) hx hb dX9_closeBy_36 hl (by decide) rfl (fun ls hl => ?_)
  have key38 : ∃ (i6 : Int32) (σ3 : SG), clB D cy ad τ Y s σ3 H locs ∧ lv_has ls 7 [(6, .int i6), (5, .int (sgI σ26 (yp Y j) 13)), (4, .ref e9), (3, .ref d9), (2, .int ch), (1, .ref (yp Y j)), (0, .ref (yX Y))] ∧ (0 ≤ i6.toInt ∧ i6.toInt ≤ (sgI σ26 (yp Y j) 13).toInt) ∧ evJ Y (yp Y j) σ26 σ3 ∧ (sgI σ3 (yp Y j) 13).toInt = (sgI σ26 (yp Y j) 13).toInt - i6.toInt := ⟨_, _, hB, (lv_sub hl [0, 1, 2, 3, 6, 5, 4] rfl), ⟨by decide, by rw [e0]; exact hcn.1⟩, evJ_rf, by rw [e0]; omega⟩
  clear hB hl
  obtain ⟨i6, σ3, hB, hl, hi6, hJ, hcj⟩ := key38
  obtain ⟨d38, hd38⟩ : ∃ d : Nat, d = 20 - i6.toInt.toNat := ⟨_, rfl⟩
  induction d38 using Nat.strongRecOn generalizing H locs ls i6 σ3
  rename_i d38 ih38
  refine lv_iload hx hb dX9_closeBy_38 (lv_at hl 0 rfl) ?_
  refine lv_iload hx hb dX9_closeBy_40 (lv_at hl 1 rfl) ?_
  refine lv_icmp_ge (tgt := 57) hx hb dX9_closeBy_42 (by decide) (fun c42 => ?_) (fun c42 => ?_)
  · refine lv_aload_n hx hb dX9_closeBy_57 rfl (lv_at hl 5 rfl) ?_
    have hge := i_le c42
    have hz13 : sgI σ3 (yp Y j) 13 = 0 := i_eq.mpr (by rw [e0]; omega)
    have h23 : sgR σ3 (yp Y j) 2 = some e9 := (hJ.2.2.1 _ 2 10 hp26.1 (by decide) rfl).trans ((hN.2.1 _ 2).trans h2)
    refine cl_callN (ci := 10) F hB (k_pdet l D cy hB.2 hj h23 _) ⟨va_cnB 0 F.1.2.2.2.2 (vgN (vm_2 _ (List.mem_of_getElem? (i := 23) rfl))) rfl rfl rfl (F.2.2.1.1 _ nf_132) (F.1.2.2.2.2 _ (List.mem_cons_of_mem _ (vm_2 _ (List.mem_of_getElem? (i := 22) rfl)))) ⟨by decide, by decide, by decide +kernel⟩ ⟨Nat.le_of_ble_eq_true rfl, Nat.le_of_ble_eq_true rfl⟩, F.1.2.2.2.2 _ (List.mem_cons_of_mem _ (vm_5 _ (List.mem_of_getElem? (i := 29) rfl))), F.1.2.2.2.2 _ (List.mem_cons_of_mem _ (vm_5 _ (List.mem_of_getElem? (i := 30) rfl)))⟩ rfl rfl (by decide) rfl hl.1 rfl (Nat.le_of_ble_eq_true rfl) dX9_closeBy_58 ⟨Nat.le_of_ble_eq_true rfl, Nat.le_of_ble_eq_true rfl⟩ (hB.2.2.2.2.2.2.2.2.1 j hj).1 (fun H locs v σ58 hB hP => ?_)
    obtain ⟨rfl, hE⟩ := hP
    refine lv_iload hx hb dX9_closeBy_61 (lv_at hl 1 rfl) ?_
    exact cl_iret F hB hrt dX9_closeBy_63 (⟨⟨_, rfl⟩, z26, σ26, σ3, hz26, hN, hJ, hz13, hE⟩)
  · refine lv_aload_n hx hb dX9_closeBy_45 rfl (lv_at hl 6 rfl) ?_
    refine lv_aload_n hx hb dX9_closeBy_46 rfl (lv_at hl 5 rfl) ?_
    refine lv_iload_n hx hb dX9_closeBy_47 rfl (lv_at hl 4 rfl) ?_
    have hV3 := hB.2
    have hlt := i_nle c42
    refine cl_callV (ci := 14) F hB (k_end l D cy hst hs hB.2 hj _ hc (by omega) _) (cwV 2 F.1.2.2.2.2 (vgV (vm_5 _ (List.mem_of_getElem? (i := 26) rfl)) (vm_5 _ (List.mem_of_getElem? (i := 27) rfl)) (vm_5 _ (List.mem_of_getElem? (i := 28) rfl)) (vm_4 _ (List.mem_of_getElem? (i := 20) rfl)) (vm_5 _ (List.mem_of_getElem? (i := 18) rfl))) rfl rfl rfl ⟨rfl, by decide, by decide, by decide +kernel⟩ ⟨Nat.le_of_ble_eq_true rfl, Nat.le_of_ble_eq_true rfl⟩) rfl rfl (by decide) rfl hl.1 rfl (Nat.le_of_ble_eq_true rfl) dX9_closeBy_48 ⟨Nat.le_of_ble_eq_true rfl, Nat.le_of_ble_eq_true rfl⟩ hB.2.2.1.1 (fun H locs v σ48 hB hP => ?_)
    obtain ⟨rfl, σa, hVa, hka, rfl⟩ := hP
    have c13 := kp_I (ci := 10) (t := 0) (k := 13) hV3.1 hVa.1 hka (hV3.2.2.2.2.2.2.2.1 j hj).1 (by decide) rfl (by decide) (fun d _ => M_no (by decide +kernel) d)
    have hJ9 : evJ Y (yp Y j) σ26 (dropd (yp Y j) σa) := evJ_tr hJ (evJ_tr (evJ_of hV3 hVa hka) (evJ_drop np.1 np.2))
    have e1 : (1 : Int32).toInt = 1 := rfl
    have cN : (sgI (dropd (yp Y j) σa) (yp Y j) 13).toInt = (sgI σ3 (yp Y j) 13).toInt - 1 := by
      rw [show sgI (dropd (yp Y j) σa) (yp Y j) 13 = sgI σa (yp Y j) 13 - 1 from if_pos ⟨rfl, rfl⟩, c13, i_sub (by rw [e1]; omega) (by rw [e1]; omega), e1]
    refine lv_iinc (lv' := [(6, .int _), (5, .int _), (4, .ref _), (3, .ref _), (2, .int _), (1, .ref _), (0, .ref _)]) hx hb dX9_closeBy_51 hl (k := 0) rfl rfl (by decide) rfl (fun ls hl => ?_)
    refine lv_goto (tgt := 38) hx hb dX9_closeBy_54 (by decide) ?_
    have q38 := cl_add1 (x := i6) (by omega) (by omega)
    exact ih38 _ (by subst hd38; rw [q38]; omega) _ _ _ _ _ hB (lv_sub hl [0, 1, 2, 3, 4, 5, 6] rfl) ⟨by rw [q38]; omega, by rw [q38]; omega⟩ hJ9 (by rw [q38, cN]; omega) rfl
end CLK7
