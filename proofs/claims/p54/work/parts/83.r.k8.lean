section CLK8
theorem dX5_addTransfer_0 : decode cX5_addTransfer 0 = .ok (.aload_n 0, 1) := by decide +kernel
theorem dX5_addTransfer_1 : decode cX5_addTransfer 1 = .ok (.aload_n 0, 1) := by decide +kernel
theorem dX5_addTransfer_2 : decode cX5_addTransfer 2 = .ok (.getfield 68, 3) := by decide +kernel
theorem dX5_addTransfer_5 : decode cX5_addTransfer 5 = .ok (.invokevirtual 71, 3) := by decide +kernel
theorem dX5_addTransfer_8 : decode cX5_addTransfer 8 = .ok (.astore_n 2, 1) := by decide +kernel
theorem dX5_addTransfer_9 : decode cX5_addTransfer 9 = .ok (.aload_n 2, 1) := by decide +kernel
theorem dX5_addTransfer_10 : decode cX5_addTransfer 10 = .ok (.iload_n 1, 1) := by decide +kernel
theorem dX5_addTransfer_11 : decode cX5_addTransfer 11 = .ok (.putfield 75, 3) := by decide +kernel
theorem dX5_addTransfer_14 : decode cX5_addTransfer 14 = .ok (.aload_n 2, 1) := by decide +kernel
theorem dX5_addTransfer_15 : decode cX5_addTransfer 15 = .ok (.iconst 0, 1) := by decide +kernel
theorem dX5_addTransfer_16 : decode cX5_addTransfer 16 = .ok (.putfield 78, 3) := by decide +kernel
theorem dX5_addTransfer_19 : decode cX5_addTransfer 19 = .ok (.aload_n 2, 1) := by decide +kernel
theorem dX5_addTransfer_20 : decode cX5_addTransfer 20 = .ok (.iconst 0, 1) := by decide +kernel
theorem dX5_addTransfer_21 : decode cX5_addTransfer 21 = .ok (.putfield 81, 3) := by decide +kernel
theorem dX5_addTransfer_24 : decode cX5_addTransfer 24 = .ok (.aload_n 2, 1) := by decide +kernel
theorem dX5_addTransfer_25 : decode cX5_addTransfer 25 = .ok (.iconst 0, 1) := by decide +kernel
theorem dX5_addTransfer_26 : decode cX5_addTransfer 26 = .ok (.putfield 84, 3) := by decide +kernel
theorem dX5_addTransfer_29 : decode cX5_addTransfer 29 = .ok (.aload_n 2, 1) := by decide +kernel
theorem dX5_addTransfer_30 : decode cX5_addTransfer 30 = .ok (.iconst 0, 1) := by decide +kernel
theorem dX5_addTransfer_31 : decode cX5_addTransfer 31 = .ok (.putfield 87, 3) := by decide +kernel
theorem dX5_addTransfer_34 : decode cX5_addTransfer 34 = .ok (.aload_n 0, 1) := by decide +kernel
theorem dX5_addTransfer_35 : decode cX5_addTransfer 35 = .ok (.dup, 1) := by decide +kernel
theorem dX5_addTransfer_36 : decode cX5_addTransfer 36 = .ok (.getfield 68, 3) := by decide +kernel
theorem dX5_addTransfer_39 : decode cX5_addTransfer 39 = .ok (.iconst 1, 1) := by decide +kernel
theorem dX5_addTransfer_40 : decode cX5_addTransfer 40 = .ok (.iadd, 1) := by decide +kernel
theorem dX5_addTransfer_41 : decode cX5_addTransfer 41 = .ok (.putfield 68, 3) := by decide +kernel
theorem dX5_addTransfer_44 : decode cX5_addTransfer 44 = .ok (.aload_n 2, 1) := by decide +kernel
theorem dX5_addTransfer_45 : decode cX5_addTransfer 45 = .ok (.areturn, 1) := by decide +kernel
set_option maxRecDepth 100000 in
set_option maxHeartbeats 4000000 in
theorem k_addT (l : Launch) (D : va_G) (cy : Nat → ClassId) {ad τ : List Nat} {Y : CY} {σ : SG} (hV : VL cy ad τ Y σ) {j : Nat} (hj : j < 12) (x : Int32) (h1 : (sgI σ (yp Y j) 13).toInt < 4) (sz : Nat) : clM l D cy ad τ Y σ sz yX5_addTransfer (Cond.code yX5_addTransfer cX5_addTransfer 3 (some (.object "Hubcascade$Transfer")) :: vWall) 1 21 [.ref (yp Y j), .int x] (fun v s2 => v = some (.ref (yt Y j ((sgI σ (yp Y j) 12 + sgI σ (yp Y j) 13) &&& 3).toInt.toNat)) ∧ sgPI (sgPI (sgPI (sgPI (sgPI (sgPI σ (yt Y j ((sgI σ (yp Y j) 12 + sgI σ (yp Y j) 13) &&& 3).toInt.toNat) 1 x) (yt Y j ((sgI σ (yp Y j) 12 + sgI σ (yp Y j) 13) &&& 3).toInt.toNat) 2 0) (yt Y j ((sgI σ (yp Y j) 12 + sgI σ (yp Y j) 13) &&& 3).toInt.toNat) 3 0) (yt Y j ((sgI σ (yp Y j) 12 + sgI σ (yp Y j) 13) &&& 3).toInt.toNat) 4 0) (yt Y j ((sgI σ (yp Y j) 12 + sgI σ (yp Y j) 13) &&& 3).toInt.toNat) 5 0) (yp Y j) 13 (sgI σ (yp Y j) 13 + 1) = s2) := by
  refine cl_ofW (cc := cX5_addTransfer) (maxL := 3) (ret := (some (.object "Hubcascade$Transfer"))) hV (by decide) rfl (Nat.le_of_ble_eq_true rfl) (lv := [(0, .ref (yp Y j)), (1, .int x)]) rfl (fun p e s m below meth c ls H hrt hnm F hB hl => ?_) sz
  have hx := F.1.1
  have hb := F.1.2.1
  have hown := F.1.2.2.2.1
  obtain ⟨LX, LD, Ld, LE, Le, LP9, Lp, Lt, LU, LA, Lz⟩ := hV.2
  have h4 := VT_in (ci := 10) (k := 13) (t := 0) (lo := 0) (hi := 4) hV.1 (Lp j hj).1 (by decide) rfl (by decide) (by decide +kernel)
  have e1 : (1 : Int32).toInt = 1 := rfl
  have e9 : (sgI σ (yp Y j) 13 + 1).toInt = (sgI σ (yp Y j) 13).toInt + 1 := by rw [i_add (by rw [e1]; omega) (by rw [e1]; omega), e1]
  have h3 := c_and3 (sgI σ (yp Y j) 12 + sgI σ (yp Y j) 13)
  have ht9 := ((Lt j hj).2.2 _ (show ((sgI σ (yp Y j) 12 + sgI σ (yp Y j) 13) &&& 3).toInt.toNat < 4 by omega)).2
  refine lv_aload_n hx hb dX5_addTransfer_0 rfl (lv_at hl 0 rfl) ?_
  refine lv_aload_n hx hb dX5_addTransfer_1 rfl (lv_at hl 0 rfl) ?_
  refine gf_X5_68 F hB dX5_addTransfer_2 (Lp j hj).1 ?_
  refine cl_callV (ci := 10) F hB (k_trAt l D cy hB.2 hj _ _) (cwV 1 F.1.2.2.2.2 (vgV (vm_2 _ (List.mem_of_getElem? (i := 29) rfl)) (vm_2 _ (List.mem_of_getElem? (i := 30) rfl)) (vm_2 _ (List.mem_of_getElem? (i := 31) rfl)) (vm_2 _ (List.mem_of_getElem? (i := 22) rfl)) (vm_2 _ (List.mem_of_getElem? (i := 25) rfl))) rfl rfl rfl ⟨rfl, by decide, by decide, by decide +kernel⟩ ⟨Nat.le_of_ble_eq_true rfl, Nat.le_of_ble_eq_true rfl⟩) rfl rfl (by decide) rfl hl.1 rfl (Nat.le_of_ble_eq_true rfl) dX5_addTransfer_5 ⟨Nat.le_of_ble_eq_true rfl, Nat.le_of_ble_eq_true rfl⟩ (Lp j hj).1 (fun H locs v σ5 hB hP => ?_)
  obtain ⟨rfl, rfl⟩ := hP
  refine lv_astore_n (lv' := [(2, .ref _), (0, .ref _), (1, .int _)]) hx hb dX5_addTransfer_8 rfl hl (by decide) rfl (fun ls hl => ?_)
  refine lv_aload_n hx hb dX5_addTransfer_9 rfl (lv_at hl 0 rfl) ?_
  refine lv_iload_n hx hb dX5_addTransfer_10 rfl (lv_at hl 2 rfl) ?_
  refine pf_X5_75 F hB dX5_addTransfer_11 ht9 (fun H locs hBn => ?_)
  clear hB; have hB := hBn; clear hBn
  refine lv_aload_n hx hb dX5_addTransfer_14 rfl (lv_at hl 0 rfl) ?_
  refine lv_iconst (v := 0) hx hb dX5_addTransfer_15 (by decide) ?_
  refine pf_X5_78 F hB dX5_addTransfer_16 ht9 (fun H locs hBn => ?_)
  clear hB; have hB := hBn; clear hBn
  refine lv_aload_n hx hb dX5_addTransfer_19 rfl (lv_at hl 0 rfl) ?_
  refine lv_iconst (v := 0) hx hb dX5_addTransfer_20 (by decide) ?_
  refine pf_X5_81 F hB dX5_addTransfer_21 ht9 ⟨by decide, by decide⟩ (fun H locs hBn => ?_)
  clear hB; have hB := hBn; clear hBn
  refine lv_aload_n hx hb dX5_addTransfer_24 rfl (lv_at hl 0 rfl) ?_
  refine lv_iconst (v := 0) hx hb dX5_addTransfer_25 (by decide) ?_
  refine pf_X5_84 F hB dX5_addTransfer_26 ht9 ⟨by decide, by decide⟩ (fun H locs hBn => ?_)
  clear hB; have hB := hBn; clear hBn
  refine lv_aload_n hx hb dX5_addTransfer_29 rfl (lv_at hl 0 rfl) ?_
  refine lv_iconst (v := 0) hx hb dX5_addTransfer_30 (by decide) ?_
  refine pf_X5_87 F hB dX5_addTransfer_31 ht9 ⟨by decide, by decide⟩ (fun H locs hBn => ?_)
  clear hB; have hB := hBn; clear hBn
  refine lv_aload_n hx hb dX5_addTransfer_34 rfl (lv_at hl 1 rfl) ?_
  refine lv_dup hx hb dX5_addTransfer_35 rfl ?_
  refine gf_X5_68 F hB dX5_addTransfer_36 (Lp j hj).1 ?_
  rw [c_nk (by decide), c_nk (by decide), c_nk (by decide), c_nk (by decide), c_nk (by decide)]
  refine lv_iconst (v := 1) hx hb dX5_addTransfer_39 (by decide) ?_
  refine lv_iadd hx hb dX5_addTransfer_40 ?_
  refine pf_X5_68 F hB dX5_addTransfer_41 (Lp j hj).1 ⟨by rw [e9]; omega, by rw [e9]; omega⟩ (fun H locs hBn => ?_)
  clear hB; have hB := hBn; clear hBn
  refine lv_aload_n hx hb dX5_addTransfer_44 rfl (lv_at hl 0 rfl) ?_
  exact cl_aret F hB hrt (Or.inl ⟨_, rfl⟩) (Or.inr ⟨_, rfl⟩) dX5_addTransfer_45 (⟨rfl, rfl⟩)

theorem dX5_isOpen_0 : decode cX5_isOpen 0 = .ok (.aload_n 0, 1) := by decide +kernel
theorem dX5_isOpen_1 : decode cX5_isOpen 1 = .ok (.getfield 35, 3) := by decide +kernel
theorem dX5_isOpen_4 : decode cX5_isOpen 4 = .ok (.ifnull 7, 3) := by decide +kernel
theorem dX5_isOpen_7 : decode cX5_isOpen 7 = .ok (.iconst 1, 1) := by decide +kernel
theorem dX5_isOpen_8 : decode cX5_isOpen 8 = .ok (.goto 4, 3) := by decide +kernel
theorem dX5_isOpen_11 : decode cX5_isOpen 11 = .ok (.iconst 0, 1) := by decide +kernel
theorem dX5_isOpen_12 : decode cX5_isOpen 12 = .ok (.ireturn, 1) := by decide +kernel
set_option maxRecDepth 100000 in
set_option maxHeartbeats 4000000 in
theorem k_isOpen (l : Launch) (D : va_G) (cy : Nat → ClassId) {ad τ : List Nat} {Y : CY} {σ : SG} (hV : VL cy ad τ Y σ) {a : Nat} (ha : sgT σ a = 11) (sz : Nat) : clM l D cy ad τ Y σ sz yX5_isOpen (Cond.code yX5_isOpen cX5_isOpen 1 (some .boolean) :: vWall) 0 0 [.ref a] (fun v s2 => (∃ b : Int32, v = some (.int b) ∧ sgb b (∃ d, sgR σ a 1 = some d)) ∧ σ = s2) := by
  refine cl_ofW (cc := cX5_isOpen) (maxL := 1) (ret := (some .boolean)) hV (by decide) rfl (Nat.le_of_ble_eq_true rfl) (lv := [(0, .ref a)]) rfl (fun p e s m below meth c ls H hrt hnm F hB hl => ?_) sz
  have hx := F.1.1
  have hb := F.1.2.1
  have hown := F.1.2.2.2.1
  refine lv_aload_n hx hb dX5_isOpen_0 rfl (lv_at hl 0 rfl) ?_
  refine gf_X5_35 F hB dX5_isOpen_1 ha ?_
  refine sg_split (fun hz1 => ?_) (fun b1 hz1 => ?_)
  · skip
    refine lv_ifnullN (tgt := 11) hx hb dX5_isOpen_4 (by decide) ?_
    refine lv_iconst (v := 0) hx hb dX5_isOpen_11 (by decide) ?_
    exact cl_zret F hB hrt dX5_isOpen_12 rfl (by first | exact ⟨⟨_, rfl, sgb_1 ⟨_, hz1⟩⟩, rfl⟩ | exact ⟨⟨_, rfl, sgb_0 (fun ⟨d, h⟩ => by rw [hz1] at h; cases h)⟩, rfl⟩)
  · skip
    refine lv_ifnull hx hb dX5_isOpen_4 ?_
    refine lv_iconst (v := 1) hx hb dX5_isOpen_7 (by decide) ?_
    refine lv_goto (tgt := 12) hx hb dX5_isOpen_8 (by decide) ?_
    exact cl_zret F hB hrt dX5_isOpen_12 rfl (by first | exact ⟨⟨_, rfl, sgb_1 ⟨_, hz1⟩⟩, rfl⟩ | exact ⟨⟨_, rfl, sgb_0 (fun ⟨d, h⟩ => by rw [hz1] at h; cases h)⟩, rfl⟩)
end CLK8
