section CLK8
theorem dX5_addTransfer_0 : decode cX5_addTransfer 0 = .ok (.aload_n 0, 1) := by decide +kernel
theorem dX5_addTransfer_1 : decode cX5_addTransfer 1 = .ok (.aload_n 0, 1) := by decide +kernel
theorem dX5_addTransfer_2 : decode cX5_addTransfer 2 = .ok (.getfield 68, 3) := by decide +kernel
theorem dX5_addTransfer_5 : decode cX5_addTransfer 5 = .ok (.invokevirtual 71, 3) := by decide +kernel
theorem dX5_addTransfer_8 : decode cX5_addTransfer 8 = .ok (.astore_n 2, 1) := by decide +kernel
theorem dX5_addTransfer_9 : decode cX5_addTransfer 9 = .ok (.aload_n 2, 1) := by decide +kernel
theorem dX5_addTransfer_10 : decode cX5_addTransfer 10 = .ok (.iload_n 1, 1) := by decide +kernel
theorem dX5_addTransfer_11 : decode cX5_addTransfer 11 = .ok (.putfield 75, 3) := by decide +kernel
theorem dX5_addTransfer_14 : decode cX5_addTransfer 14 = .ok (.aload_n 2, 1) := by decide +kernel
theorem dX5_addTransfer_15 : decode cX5_addTransfer 15 = .ok (.iconst 0, 1) := by decide +kernel
theorem dX5_addTransfer_16 : decode cX5_addTransfer 16 = .ok (.putfield 78, 3) := by decide +kernel
theorem dX5_addTransfer_19 : decode cX5_addTransfer 19 = .ok (.aload_n 2, 1) := by decide +kernel
theorem dX5_addTransfer_20 : decode cX5_addTransfer 20 = .ok (.iconst 0, 1) := by decide +kernel
theorem dX5_addTransfer_21 : decode cX5_addTransfer 21 = .ok (.putfield 81, 3) := by decide +kernel
theorem dX5_addTransfer_24 : decode cX5_addTransfer 24 = .ok (.aload_n 2, 1) := by decide +kernel
theorem dX5_addTransfer_25 : decode cX5_addTransfer 25 = .ok (.iconst 0, 1) := by decide +kernel
theorem dX5_addTransfer_26 : decode cX5_addTransfer 26 = .ok (.putfield 84, 3) := by decide +kernel
theorem dX5_addTransfer_29 : decode cX5_addTransfer 29 = .ok (.aload_n 2, 1) := by decide +kernel
theorem dX5_addTransfer_30 : decode cX5_addTransfer 30 = .ok (.iconst 0, 1) := by decide +kernel
theorem dX5_addTransfer_31 : decode cX5_addTransfer 31 = .ok (.putfield 87, 3) := by decide +kernel
theorem dX5_addTransfer_34 : decode cX5_addTransfer 34 = .ok (.aload_n 0, 1) := by decide +kernel
theorem dX5_addTransfer_35 : decode cX5_addTransfer 35 = .ok (.dup, 1) := by decide +kernel
theorem dX5_addTransfer_36 : decode cX5_addTransfer 36 = .ok (.getfield 68, 3) := by decide +kernel
theorem dX5_addTransfer_39 : decode cX5_addTransfer 39 = .ok (.iconst 1, 1) := by decide +kernel
theorem dX5_addTransfer_40 : decode cX5_addTransfer 40 = .ok (.iadd, 1) := by decide +kernel
theorem dX5_addTransfer_41 : decode cX5_addTransfer 41 = .ok (.putfield 68, 3) := by decide +kernel
theorem dX5_addTransfer_44 : decode cX5_addTransfer 44 = .ok (.aload_n 2, 1) := by decide +kernel
theorem dX5_addTransfer_45 : decode cX5_addTransfer 45 = .ok (.areturn, 1) := by decide +kernel
set_option maxRecDepth 100000 in
set_option maxHeartbeats 4000000 in
theorem k_addT (l : Launch) (D : va_G) (cy : Nat → ClassId) {ad τ : List Nat} {Y : CY} {σ : SG} (hV : VL cy ad τ Y σ) {j : Nat} (hj : j < 12) (x : Int32) (h1 : (sgI σ (yp Y j) 13).toInt < 4) (sz : Nat) : clM l D cy ad τ Y σ sz yX5_addTransfer (Cond.code yX5_addTransfer cX5_addTransfer 3 (some (.object "Hubcascade$Transfer")) :: vWall) 1 21 [.ref (yp Y j), .int x] (fun v s2 => v = some (.ref (yt Y j ((sgI σ (yp Y j) 12 + sgI σ (yp Y j) 13) &&& 3).toInt.toNat)) ∧ sgPI (sgPI (sgPI (sgPI (sgPI (sgPI σ (yt Y j ((sgI σ (yp Y j) 12 + sgI σ (yp Y j) 13) &&& 3).toInt.toNat) 1 x) (yt Y j ((sgI σ (yp Y j) 12 + sgI σ (yp Y j) 13) &&& 3).toInt.toNat) 2 0) (yt Y j ((sgI σ (yp Y j) 12 + sgI σ (yp Y j) 13) &&& 3).toInt.toNat) 3 0) (yt Y j ((sgI σ (yp Y j) 12 + sgI σ (yp Y j) 13) &&& 3).toInt.toNat) 4 0) (yt Y j ((sgI σ (yp Y j) 12 + sgI σ (yp Y j) 13) &&& 3).toInt.toNat) 5 0) (yp Y j) 13 (sgI σ (yp Y j) 13 + 1) = s2) := by
  refine cl_ofW (cc := cX5_addTransfer) (maxL := 3) (ret := (some (.object "Hubcascade$Transfer"))) hV (by decide) rfl (Nat.le_of_ble_eq_true rfl) (lv := [(0, .ref (yp Y j)), (1, .int x)]) rfl (fun p e s m below meth c ls H hrt hnm F hB hl => ?_) sz
  have hx := F.1.1
  have hb := F.1.2.1
  have hown := F.1.2.2.2.1
  obtain ⟨LX, LD, Ld, LE, Le, LP9, Lp, Lt, LU, LA, Lz⟩ := hV.2
  have h4 := VT_in (ci := 10) (k := 13) (t := 0) (lo := 0) (hi := 4) hV.1 (Lp j hj).1 (by decide) rfl (by decide) (by decide +kernel)
  have e1 : (1 : Int32).toInt = 1 := rfl
  have e9 : (sgI σ (yp Y j) 13 + 1).toInt = (sgI σ (yp Y j) 13).toInt + 1 := by rw [i_add (by rw [e1]; omega) (by rw [e1]; omega), e1]
  have h3 := c_and3 (sgI σ (yp Y j) 12 + sgI σ (yp Y j) 13)
  have ht9 := ((Lt j hj).2.2 _ (show ((sgI σ (yp Y j) 12 + sgI σ (yp Y j) 13) &&& 3).toInt.toNat < 4 by omega)).2
  refine lv_aload_n hx hb dX5_addTransfer_0 rfl (lv_at hl 0 rfl) ?_
  refine lv_aload_n hx hb dX5_addTransfer_1 rfl (lv_at hl 0 rfl) ?_
  refine gf_X5_68 F hB dX5_addTransfer_2 (Lp j hj).1 ?_
  refine cl_callV (ci := 10) F hB (k_trAt l D cy hB.2 hj _ _) (cwV 1 F.1.2.2.2.2 (vgV (vm_2 _ (List.mem_of_getElem? (i := 29) rfl)) (vm_2 _ (List.mem_of_getElem? (i := 30) rfl)) (vm_2 _ (List.mem_of_getElem? (i := 31) rfl)) (vm_2 _ (List.mem_of_getElem? (i := 22) rfl)) (vm_2 _ (List.mem_of_getElem? (i := 25) rfl))) rfl rfl rfl ⟨rfl, by decide, by decide, by decide +kernel⟩ ⟨Nat.le_of_ble_eq_true rfl, Nat.le_of_ble_eq_true rfl⟩) rfl rfl (by decide) rfl hl.1 rfl (Nat.le_of_ble_eq_true rfl) dX5_addTransfer_5 ⟨Nat.le_of_ble_eq_true rfl, Nat.le_of_ble_eq_true rfl⟩ (Lp j hj).1 (fun H locs v σ5 hB hP => ?_)
  obtain ⟨rfl, rfl⟩ := hP
  refine lv_astore_n (lv' := [(2, .ref _), (0, .ref _), (1, .int _)]) hx hb dX5_addTransfer_8 rfl hl (by decide) rfl (fun ls hl => ?_)
  refine lv_aload_n hx hb dX5_addTransfer_9 rfl (lv_at hl 0 rfl) ?_
  refine lv_iload_n hx hb dX5_addTransfer_10 rfl (lv_at hl 2 rfl) ?_
  refine pf_X5_75 F hB dX5_addTransfer_11 ht9 (fun H locs hBn => ?_)
  clear hB; have hB := hBn; clear hBn
  refine lv_aload_n hx hb dX5_addTransfer_14 rfl (lv_at hl 0 rfl) ?_
  refine lv_iconst (v := 0) hx hb dX5_addTransfer_15 (by decide) ?_
  refine pf_X5_78 F hB dX5_addTransfer_16 ht9 (fun H locs hBn => ?_)
  clear hB; have hB := hBn; clear hBn
  refine lv_aload_n hx hb dX5_addTransfer_19 rfl (lv_at hl 0 rfl) ?_
  refine lv_iconst (v := 0) hx hb dX5_addTransfer_20 (by decide) ?_
  refine pf_X5_81 F hB dX5_addTransfer_21 ht9 ⟨by decide, by decide⟩ (fun H locs hBn => ?_)
  clear hB; have hB := hBn; clear hBn
  refine lv_aload_n hx hb dX5_addTransfer_24 rfl (lv_at hl 0 rfl) ?_
  refine lv_iconst (v := 0) hx hb dX5_addTransfer_25 (by decide) ?_
  refine pf_X5_84 F hB dX5_addTransfer_26 ht9 ⟨by decide, by decide⟩ (fun H locs hBn => ?_)
  clear hB; have hB := hBn; clear hBn
  refine lv_aload_n hx hb dX5_addTransfer_29 rfl (lv_at hl 0 rfl) ?_
  refine lv_iconst (v := 0) hx hb dX5_addTransfer_30 (by decide) ?_
  refine pf_X5_87 F hB dX5_addTransfer_31 ht9 ⟨by decide, by decide⟩ (fun H locs hBn => ?_)
  clear hB; have hB := hBn; clear hBn
  refine lv_aload_n hx hb dX5_addTransfer_34 rfl (lv_at hl 1 rfl) ?_
  refine lv_dup hx hb dX5_addTransfer_35 rfl ?_
  refine gf_X5_68 F hB dX5_addTransfer_36 (Lp j hj).1 ?_
  rw [c_nk (by decide), c_nk (by decide), c_nk (by decide), c_nk (by decide), c_nk (by decide)]
  refine lv_iconst (v := 1) hx hb dX5_addTransfer_39 (by decide) ?_
  refine lv_iadd hx hb dX5_addTransfer_40 ?_
  refine pf_X5_68 F hB dX5_addTransfer_41 (Lp j hj).1 ⟨by rw [e9]; omega, by rw [e9]; omega⟩ (fun H locs hBn => ?_)
  clear hB; have hB := hBn; clear hBn
  refine lv_aload_n hx hb dX5_addTransfer_44 rfl (lv_at hl 0 rfl) ?_
  exact cl_aret F hB hrt (Or.inl ⟨_, rfl⟩) (Or.inr ⟨_, rfl⟩) dX5_addTransfer_45 (⟨rfl, rfl⟩)

theorem dX5_isOpen_0 : decode cX5_isOpen 0 = .ok (.aload_n 0, 1) := by decide +kernel
theorem dX5_isOpen_1 : decode cX5_isOpen 1 = .ok (.getfield 35, 3) := by decide +kernel
theorem dX5_isOpen_4 : decode cX5_isOpen 4 = .ok (.ifnull 7, 3) := by decide +kernel
theorem dX5_isOpen_7 : decode cX5_isOpen 7 = .ok (.iconst 1, 1) := by decide +kernel
theorem dX5_isOpen_8 : decode cX5_isOpen 8 = .ok (.goto 4, 3) := by decide +kernel
theorem dX5_isOpen_11 : decode cX5_isOpen 11 = .ok (.iconst 0, 1) := by decide +kernel
theorem dX5_isOpen_12 : decode cX5_isOpen 12 = .ok (.ireturn, 1) := by decide +kernel
set_option maxRecDepth 100000 in
set_option maxHeartbeats 4000000 in
theorem k_isOpen (l : Launch) (D : va_G) (cy : Nat → ClassId) {ad τ : List Nat} {Y : CY} {σ : SG} (hV : VL cy ad τ Y σ) {a : Nat} (ha : sgT σ a = 11) (sz : Nat) : clM l D cy ad τ Y σ sz yX5_isOpen (Cond.code yX5_isOpen cX5_isOpen 1 (some .boolean) :: vWall) 0 0 [.ref a] (fun v s2 => (∃ b : Int32, v = some (.int b) ∧ sgb b (∃ d, sgR σ a 1 = some d)) ∧ σ = s2) := by
  refine cl_ofW (cc := cX5_isOpen) (maxL := 1) (ret := (some .boolean)) hV (by decide) rfl (Nat.le_of_ble_eq_true rfl) (lv := [(0, .ref a)]) rfl (fun p e s m below meth c ls H hrt hnm F hB hl => ?_) sz
  have hx := F.1.1
  have hb := F.1.2.1
  have hown := F.1.2.2.2.1
  refine lv_aload_n hx hb dX5_isOpen_0 rfl (lv_at hl 0 rfl) ?_
  refine gf_X5_35 F hB dX5_isOpen_1 ha ?_
  refine sg_split (fun hz1 => ?_) (fun b1 hz1 => ?_)
  · skip
    refine lv_ifnullN (tgt := 11) hx hb dX5_isOpen_4 (by decide) ?_
    refine lv_iconst (v := 0) hx hb dX5_isOpen_11 (by decide) ?_
    exact cl_zret F hB hrt dX5_isOpen_12 rfl (by first | exact ⟨⟨_, rfl, sgb_1 ⟨_, hz1⟩⟩, rfl⟩ | exact ⟨⟨_, rfl, sgb_0 (fun ⟨d, h⟩ => by rw [hz1] at h; cases h)⟩, rfl⟩)
  · skip
    refine lv_ifnull hx hb dX5_isOpen_4 ?_
    refine lv_iconst (v := 1) hx hb dX5_isOpen_7 (by decide) ?_
    refine lv_goto (tgt := 12) hx hb dX5_isOpen_8 (by decide) ?_
    exact cl_zret F hB hrt dX5_isOpen_12 rfl (by first | exact ⟨⟨_, rfl, sgb_1 ⟨_, hz1⟩⟩, rfl⟩ | exact ⟨⟨_, rfl, sgb_0 (fun ⟨d, h⟩ => by rw [hz1] at h; cases h)⟩, rfl⟩)

theorem dX5_startAnew_0 : decode cX5_startAnew 0 = .ok (.aload_n 0, 1) := by decide +kernel
theorem dX5_startAnew_1 : decode cX5_startAnew 1 = .ok (.iconst 0, 1) := by decide +kernel
theorem dX5_startAnew_2 : decode cX5_startAnew 2 = .ok (.putfield 52, 3) := by decide +kernel
theorem dX5_startAnew_5 : decode cX5_startAnew 5 = .ok (.aload_n 0, 1) := by decide +kernel
theorem dX5_startAnew_6 : decode cX5_startAnew 6 = .ok (.iconst 0, 1) := by decide +kernel
theorem dX5_startAnew_7 : decode cX5_startAnew 7 = .ok (.putfield 55, 3) := by decide +kernel
theorem dX5_startAnew_10 : decode cX5_startAnew 10 = .ok (.aload_n 0, 1) := by decide +kernel
theorem dX5_startAnew_11 : decode cX5_startAnew 11 = .ok (.iconst 0, 1) := by decide +kernel
theorem dX5_startAnew_12 : decode cX5_startAnew 12 = .ok (.putfield 58, 3) := by decide +kernel
theorem dX5_startAnew_15 : decode cX5_startAnew 15 = .ok (.aload_n 0, 1) := by decide +kernel
theorem dX5_startAnew_16 : decode cX5_startAnew 16 = .ok (.getfield 39, 3) := by decide +kernel
theorem dX5_startAnew_19 : decode cX5_startAnew 19 = .ok (.ifnull 19, 3) := by decide +kernel
theorem dX5_startAnew_22 : decode cX5_startAnew 22 = .ok (.aload_n 0, 1) := by decide +kernel
theorem dX5_startAnew_23 : decode cX5_startAnew 23 = .ok (.getfield 39, 3) := by decide +kernel
theorem dX5_startAnew_26 : decode cX5_startAnew 26 = .ok (.iconst 0, 1) := by decide +kernel
theorem dX5_startAnew_27 : decode cX5_startAnew 27 = .ok (.putfield 61, 3) := by decide +kernel
theorem dX5_startAnew_30 : decode cX5_startAnew 30 = .ok (.aload_n 0, 1) := by decide +kernel
theorem dX5_startAnew_31 : decode cX5_startAnew 31 = .ok (.getfield 39, 3) := by decide +kernel
theorem dX5_startAnew_34 : decode cX5_startAnew 34 = .ok (.iconst 0, 1) := by decide +kernel
theorem dX5_startAnew_35 : decode cX5_startAnew 35 = .ok (.putfield 62, 3) := by decide +kernel
theorem dX5_startAnew_38 : decode cX5_startAnew 38 = .ok (.return_, 1) := by decide +kernel
set_option maxRecDepth 100000 in
set_option maxHeartbeats 4000000 in
theorem k_sta (l : Launch) (D : va_G) (cy : Nat → ClassId) {ad τ : List Nat} {Y : CY} {σ : SG} (hV : VL cy ad τ Y σ) {j e9 : Nat} (hj : j < 12) (he : sgR σ (yp Y j) 2 = some e9) (sz : Nat) : clM l D cy ad τ Y σ sz yX5_startAnew (Cond.code yX5_startAnew cX5_startAnew 1 none :: vWall) 0 0 [.ref (yp Y j)] (fun v s2 => v = none ∧ sgPI (sgPI (sgPI (sgPI (sgPI σ (yp Y j) 8 0) (yp Y j) 7 0) (yp Y j) 6 0) e9 4 0) e9 5 0 = s2) := by
  refine cl_ofW (cc := cX5_startAnew) (maxL := 1) (ret := none) hV (by decide) rfl (Nat.le_of_ble_eq_true rfl) (lv := [(0, .ref (yp Y j))]) rfl (fun p e s m below meth c ls H hrt hnm F hB hl => ?_) sz
  have hx := F.1.1
  have hb := F.1.2.1
  have hown := F.1.2.2.2.1
  obtain ⟨LX, LD, Ld, LE, Le, LP9, Lp, Lt, LU, LA, Lz⟩ := hV.2
  have te := k_pe hV hj he
  refine lv_aload_n hx hb dX5_startAnew_0 rfl (lv_at hl 0 rfl) ?_
  refine lv_iconst (v := 0) hx hb dX5_startAnew_1 (by decide) ?_
  refine pf_X5_52 F hB dX5_startAnew_2 (Lp j hj).1 ⟨by decide, by decide⟩ (fun H locs hBn => ?_)
  clear hB; have hB := hBn; clear hBn
  refine lv_aload_n hx hb dX5_startAnew_5 rfl (lv_at hl 0 rfl) ?_
  refine lv_iconst (v := 0) hx hb dX5_startAnew_6 (by decide) ?_
  refine pf_X5_55 F hB dX5_startAnew_7 (Lp j hj).1 (fun H locs hBn => ?_)
  clear hB; have hB := hBn; clear hBn
  refine lv_aload_n hx hb dX5_startAnew_10 rfl (lv_at hl 0 rfl) ?_
  refine lv_iconst (v := 0) hx hb dX5_startAnew_11 (by decide) ?_
  refine pf_X5_58 F hB dX5_startAnew_12 (Lp j hj).1 (fun H locs hBn => ?_)
  clear hB; have hB := hBn; clear hBn
  refine lv_aload_n hx hb dX5_startAnew_15 rfl (lv_at hl 0 rfl) ?_
  refine gr_X5_39 F hB dX5_startAnew_16 (Lp j hj).1 he ?_
  refine lv_ifnull hx hb dX5_startAnew_19 ?_
  refine lv_aload_n hx hb dX5_startAnew_22 rfl (lv_at hl 0 rfl) ?_
  refine gr_X5_39 F hB dX5_startAnew_23 (Lp j hj).1 he ?_
  refine lv_iconst (v := 0) hx hb dX5_startAnew_26 (by decide) ?_
  refine pf_X5_61 F hB dX5_startAnew_27 te (fun H locs hBn => ?_)
  clear hB; have hB := hBn; clear hBn
  refine lv_aload_n hx hb dX5_startAnew_30 rfl (lv_at hl 0 rfl) ?_
  refine gr_X5_39 F hB dX5_startAnew_31 (Lp j hj).1 he ?_
  refine lv_iconst (v := 0) hx hb dX5_startAnew_34 (by decide) ?_
  refine pf_X5_62 F hB dX5_startAnew_35 te ⟨by decide, by decide⟩ (fun H locs hBn => ?_)
  clear hB; have hB := hBn; clear hBn
  exact cl_vret F hB hrt dX5_startAnew_38 (⟨rfl, rfl⟩)

theorem dX5_attach_0 : decode cX5_attach 0 = .ok (.aload_n 0, 1) := by decide +kernel
theorem dX5_attach_1 : decode cX5_attach 1 = .ok (.aload_n 1, 1) := by decide +kernel
theorem dX5_attach_2 : decode cX5_attach 2 = .ok (.putfield 35, 3) := by decide +kernel
theorem dX5_attach_5 : decode cX5_attach 5 = .ok (.aload_n 0, 1) := by decide +kernel
theorem dX5_attach_6 : decode cX5_attach 6 = .ok (.aload_n 2, 1) := by decide +kernel
theorem dX5_attach_7 : decode cX5_attach 7 = .ok (.putfield 39, 3) := by decide +kernel
theorem dX5_attach_10 : decode cX5_attach 10 = .ok (.aload_n 0, 1) := by decide +kernel
theorem dX5_attach_11 : decode cX5_attach 11 = .ok (.iload_n 3, 1) := by decide +kernel
theorem dX5_attach_12 : decode cX5_attach 12 = .ok (.putfield 9, 3) := by decide +kernel
theorem dX5_attach_15 : decode cX5_attach 15 = .ok (.aload_n 0, 1) := by decide +kernel
theorem dX5_attach_16 : decode cX5_attach 16 = .ok (.bipush 32, 2) := by decide +kernel
theorem dX5_attach_18 : decode cX5_attach 18 = .ok (.putfield 22, 3) := by decide +kernel
theorem dX5_attach_21 : decode cX5_attach 21 = .ok (.aload_n 2, 1) := by decide +kernel
theorem dX5_attach_22 : decode cX5_attach 22 = .ok (.iconst 1, 1) := by decide +kernel
theorem dX5_attach_23 : decode cX5_attach 23 = .ok (.putfield 43, 3) := by decide +kernel
theorem dX5_attach_26 : decode cX5_attach 26 = .ok (.aload_n 0, 1) := by decide +kernel
theorem dX5_attach_27 : decode cX5_attach 27 = .ok (.invokevirtual 49, 3) := by decide +kernel
theorem dX5_attach_30 : decode cX5_attach 30 = .ok (.return_, 1) := by decide +kernel
set_option maxRecDepth 100000 in
set_option maxHeartbeats 4000000 in
theorem k_att (l : Launch) (D : va_G) (cy : Nat → ClassId) {ad τ : List Nat} {Y : CY} {σ : SG} (hV : VL cy ad τ Y σ) {j d9 e9 : Nat} (hj : j < 12) (hd : sgT σ d9 = 7) (he : sgT σ e9 = 8) (kk : Int32) (hk : sgF 1 kk) (sz : Nat) : clM l D cy ad τ Y σ sz yX5_attach (Cond.code yX5_attach cX5_attach 4 none :: vWall) 1 20 [.ref (yp Y j), .ref d9, .ref e9, .int kk] (fun v s2 => v = none ∧ sgPI (sgPI (sgPI (sgPI (sgPI (sgPI (sgPI (sgPI (sgPR (sgPR σ (yp Y j) 1 (some d9)) (yp Y j) 2 (some e9)) (yp Y j) 3 kk) (yp Y j) 9 32) e9 2 1) (yp Y j) 8 0) (yp Y j) 7 0) (yp Y j) 6 0) e9 4 0) e9 5 0 = s2) := by
  refine cl_ofW (cc := cX5_attach) (maxL := 4) (ret := none) hV (by decide) rfl (Nat.le_of_ble_eq_true rfl) (lv := [(0, .ref (yp Y j)), (1, .ref d9), (2, .ref e9), (3, .int kk)]) rfl (fun p e s m below meth c ls H hrt hnm F hB hl => ?_) sz
  have hx := F.1.1
  have hb := F.1.2.1
  have hown := F.1.2.2.2.1
  obtain ⟨LX, LD, Ld, LE, Le, LP9, Lp, Lt, LU, LA, Lz⟩ := hV.2
  refine lv_aload_n hx hb dX5_attach_0 rfl (lv_at hl 0 rfl) ?_
  refine lv_aload_n hx hb dX5_attach_1 rfl (lv_at hl 1 rfl) ?_
  refine pr_X5_35 F hB dX5_attach_2 (Lp j hj).1 hd (fun H locs hBn => ?_)
  clear hB; have hB := hBn; clear hBn
  refine lv_aload_n hx hb dX5_attach_5 rfl (lv_at hl 0 rfl) ?_
  refine lv_aload_n hx hb dX5_attach_6 rfl (lv_at hl 2 rfl) ?_
  refine pr_X5_39 F hB dX5_attach_7 (Lp j hj).1 he (fun H locs hBn => ?_)
  clear hB; have hB := hBn; clear hBn
  refine lv_aload_n hx hb dX5_attach_10 rfl (lv_at hl 0 rfl) ?_
  refine lv_iload_n hx hb dX5_attach_11 rfl (lv_at hl 3 rfl) ?_
  refine pf_X5_9 F hB dX5_attach_12 (Lp j hj).1 hk (fun H locs hBn => ?_)
  clear hB; have hB := hBn; clear hBn
  refine lv_aload_n hx hb dX5_attach_15 rfl (lv_at hl 0 rfl) ?_
  refine lv_bipush (v := 32) hx hb dX5_attach_16 (by decide) ?_
  refine pf_X5_22 F hB dX5_attach_18 (Lp j hj).1 ⟨by decide, by decide⟩ (fun H locs hBn => ?_)
  clear hB; have hB := hBn; clear hBn
  refine lv_aload_n hx hb dX5_attach_21 rfl (lv_at hl 2 rfl) ?_
  refine lv_iconst (v := 1) hx hb dX5_attach_22 (by decide) ?_
  refine pf_X5_43 F hB dX5_attach_23 he ⟨by decide, by decide⟩ (fun H locs hBn => ?_)
  clear hB; have hB := hBn; clear hBn
  refine lv_aload_n hx hb dX5_attach_26 rfl (lv_at hl 0 rfl) ?_
  refine cl_callV (ci := 10) F hB (k_sta l D cy hB.2 hj (if_pos ⟨rfl, rfl⟩) _) (cwV 0 F.1.2.2.2.2 (vgV (vm_2 _ (List.mem_of_getElem? (i := 19) rfl)) (vm_2 _ (List.mem_of_getElem? (i := 20) rfl)) (vm_2 _ (List.mem_of_getElem? (i := 21) rfl)) (vm_2 _ (List.mem_of_getElem? (i := 22) rfl)) (vm_2 _ (List.mem_of_getElem? (i := 13) rfl))) rfl rfl rfl ⟨rfl, by decide, by decide, by decide +kernel⟩ ⟨Nat.le_of_ble_eq_true rfl, Nat.le_of_ble_eq_true rfl⟩) rfl rfl (by decide) rfl hl.1 rfl (Nat.le_of_ble_eq_true rfl) dX5_attach_27 ⟨Nat.le_of_ble_eq_true rfl, Nat.le_of_ble_eq_true rfl⟩ (Lp j hj).1 (fun H locs v σ27 hB hP => ?_)
  obtain ⟨rfl, hE⟩ := hP
  exact cl_vret F hB hrt dX5_attach_30 (⟨rfl, hE⟩)
end CLK8
