section CLK3
theorem dX5_transferAt_0 : decode cX5_transferAt 0 = .ok (.aload_n 0, 1) := by decide +kernel
theorem dX5_transferAt_1 : decode cX5_transferAt 1 = .ok (.getfield 27, 3) := by decide +kernel
theorem dX5_transferAt_4 : decode cX5_transferAt 4 = .ok (.aload_n 0, 1) := by decide +kernel
theorem dX5_transferAt_5 : decode cX5_transferAt 5 = .ok (.getfield 65, 3) := by decide +kernel
theorem dX5_transferAt_8 : decode cX5_transferAt 8 = .ok (.iload_n 1, 1) := by decide +kernel
theorem dX5_transferAt_9 : decode cX5_transferAt 9 = .ok (.iadd, 1) := by decide +kernel
theorem dX5_transferAt_10 : decode cX5_transferAt 10 = .ok (.iconst 3, 1) := by decide +kernel
theorem dX5_transferAt_11 : decode cX5_transferAt 11 = .ok (.iand, 1) := by decide +kernel
theorem dX5_transferAt_12 : decode cX5_transferAt 12 = .ok (.aaload, 1) := by decide +kernel
theorem dX5_transferAt_13 : decode cX5_transferAt 13 = .ok (.areturn, 1) := by decide +kernel
set_option maxRecDepth 100000 in
set_option maxHeartbeats 4000000 in
theorem k_trAt (l : Launch) (D : va_G) (cy : Nat → ClassId) {ad τ : List Nat} {Y : CY} {σ : SG} (hV : VL cy ad τ Y σ) {j : Nat} (hj : j < 12) (x : Int32) (sz : Nat) : clM l D cy ad τ Y σ sz yX5_transferAt (Cond.code yX5_transferAt cX5_transferAt 2 (some (.object "Hubcascade$Transfer")) :: vWall) 0 0 [.ref (yp Y j), .int x] (fun v s2 => v = some (.ref (yt Y j ((sgI σ (yp Y j) 12 + x) &&& 3).toInt.toNat)) ∧ σ = s2) := by
  refine cl_ofW (cc := cX5_transferAt) (maxL := 2) (ret := (some (.object "Hubcascade$Transfer"))) hV (by decide) rfl (Nat.le_of_ble_eq_true rfl) (lv := [(0, .ref (yp Y j)), (1, .int x)]) rfl (fun p e s m below meth c ls H hrt hnm F hB hl => ?_) sz
  have hx := F.1.1
  have hb := F.1.2.1
  have hown := F.1.2.2.2.1
  obtain ⟨LX, LD, Ld, LE, Le, LP9, Lp, Lt, LU, LA, Lz⟩ := hV.2
  refine lv_aload_n hx hb dX5_transferAt_0 rfl (lv_at hl 0 rfl) ?_
  refine gr_X5_27 F hB dX5_transferAt_1 (Lp j hj).1 (Lp j hj).2.2 ?_
  refine lv_aload_n hx hb dX5_transferAt_4 rfl (lv_at hl 0 rfl) ?_
  refine gf_X5_65 F hB dX5_transferAt_5 (Lp j hj).1 ?_
  refine lv_iload_n hx hb dX5_transferAt_8 rfl (lv_at hl 1 rfl) ?_
  refine lv_iadd hx hb dX5_transferAt_9 ?_
  refine lv_iconst (v := 3) hx hb dX5_transferAt_10 (by decide) ?_
  refine lv_iand hx hb dX5_transferAt_11 ?_
  have h3 := c_and3 (sgI σ (yp Y j) 12 + x)
  refine sg_aald 7 hx hb F.2.1 hB.1 rfl rfl dX5_transferAt_12 (Lt j hj).1 h3.1 (by rw [(Lt j hj).2.1]; omega) (by rw [(Lt j hj).2.1]; decide) ?_
  rw [show sgR _ _ _ = some _ from ((Lt j hj).2.2 _ (by omega)).1]
  exact cl_aret F hB hrt (Or.inl ⟨_, rfl⟩) (Or.inr ⟨_, rfl⟩) dX5_transferAt_13 (⟨rfl, rfl⟩)

theorem dX5_dropFirst_0 : decode cX5_dropFirst 0 = .ok (.aload_n 0, 1) := by decide +kernel
theorem dX5_dropFirst_1 : decode cX5_dropFirst 1 = .ok (.aload_n 0, 1) := by decide +kernel
theorem dX5_dropFirst_2 : decode cX5_dropFirst 2 = .ok (.getfield 65, 3) := by decide +kernel
theorem dX5_dropFirst_5 : decode cX5_dropFirst 5 = .ok (.iconst 1, 1) := by decide +kernel
theorem dX5_dropFirst_6 : decode cX5_dropFirst 6 = .ok (.iadd, 1) := by decide +kernel
theorem dX5_dropFirst_7 : decode cX5_dropFirst 7 = .ok (.iconst 3, 1) := by decide +kernel
theorem dX5_dropFirst_8 : decode cX5_dropFirst 8 = .ok (.iand, 1) := by decide +kernel
theorem dX5_dropFirst_9 : decode cX5_dropFirst 9 = .ok (.putfield 65, 3) := by decide +kernel
theorem dX5_dropFirst_12 : decode cX5_dropFirst 12 = .ok (.aload_n 0, 1) := by decide +kernel
theorem dX5_dropFirst_13 : decode cX5_dropFirst 13 = .ok (.dup, 1) := by decide +kernel
theorem dX5_dropFirst_14 : decode cX5_dropFirst 14 = .ok (.getfield 68, 3) := by decide +kernel
theorem dX5_dropFirst_17 : decode cX5_dropFirst 17 = .ok (.iconst 1, 1) := by decide +kernel
theorem dX5_dropFirst_18 : decode cX5_dropFirst 18 = .ok (.isub, 1) := by decide +kernel
theorem dX5_dropFirst_19 : decode cX5_dropFirst 19 = .ok (.putfield 68, 3) := by decide +kernel
theorem dX5_dropFirst_22 : decode cX5_dropFirst 22 = .ok (.return_, 1) := by decide +kernel
set_option maxRecDepth 100000 in
set_option maxHeartbeats 4000000 in
theorem k_drop (l : Launch) (D : va_G) (cy : Nat → ClassId) {ad τ : List Nat} {Y : CY} {σ : SG} (hV : VL cy ad τ Y σ) {j : Nat} (hj : j < 12) (h1 : 1 ≤ (sgI σ (yp Y j) 13).toInt) (sz : Nat) : clM l D cy ad τ Y σ sz yX5_dropFirst (Cond.code yX5_dropFirst cX5_dropFirst 1 none :: vWall) 0 0 [.ref (yp Y j)] (fun v s2 => v = none ∧ sgPI (sgPI σ (yp Y j) 12 ((sgI σ (yp Y j) 12 + 1) &&& 3)) (yp Y j) 13 (sgI σ (yp Y j) 13 - 1) = s2) := by
  refine cl_ofW (cc := cX5_dropFirst) (maxL := 1) (ret := none) hV (by decide) rfl (Nat.le_of_ble_eq_true rfl) (lv := [(0, .ref (yp Y j))]) rfl (fun p e s m below meth c ls H hrt hnm F hB hl => ?_) sz
  have hx := F.1.1
  have hb := F.1.2.1
  have hown := F.1.2.2.2.1
  obtain ⟨LX, LD, Ld, LE, Le, LP9, Lp, Lt, LU, LA, Lz⟩ := hV.2
  have h4 := VT_in (ci := 10) (k := 13) (t := 0) (lo := 0) (hi := 4) hV.1 (Lp j hj).1 (by decide) rfl (by decide) (by decide +kernel)
  have e1 : (1 : Int32).toInt = 1 := rfl
  have e9 : (sgI σ (yp Y j) 13 - 1).toInt = (sgI σ (yp Y j) 13).toInt - 1 := by rw [i_sub (by rw [e1]; omega) (by rw [e1]; omega), e1]
  refine lv_aload_n hx hb dX5_dropFirst_0 rfl (lv_at hl 0 rfl) ?_
  refine lv_aload_n hx hb dX5_dropFirst_1 rfl (lv_at hl 0 rfl) ?_
  refine gf_X5_65 F hB dX5_dropFirst_2 (Lp j hj).1 ?_
  refine lv_iconst (v := 1) hx hb dX5_dropFirst_5 (by decide) ?_
  refine lv_iadd hx hb dX5_dropFirst_6 ?_
  refine lv_iconst (v := 3) hx hb dX5_dropFirst_7 (by decide) ?_
  refine lv_iand hx hb dX5_dropFirst_8 ?_
  refine pf_X5_65 F hB dX5_dropFirst_9 (Lp j hj).1 (fun H locs hBn => ?_)
  clear hB; have hB := hBn; clear hBn
  refine lv_aload_n hx hb dX5_dropFirst_12 rfl (lv_at hl 0 rfl) ?_
  refine lv_dup hx hb dX5_dropFirst_13 rfl ?_
  refine gf_X5_68 F hB dX5_dropFirst_14 (Lp j hj).1 ?_
  rw [c_nk (by decide)]
  refine lv_iconst (v := 1) hx hb dX5_dropFirst_17 (by decide) ?_
  refine lv_isub hx hb dX5_dropFirst_18 ?_
  refine pf_X5_68 F hB dX5_dropFirst_19 (Lp j hj).1 ⟨by rw [e9]; omega, by rw [e9]; omega⟩ (fun H locs hBn => ?_)
  clear hB; have hB := hBn; clear hBn
  exact cl_vret F hB hrt dX5_dropFirst_22 (⟨rfl, rfl⟩)

theorem dX5_detach_0 : decode cX5_detach 0 = .ok (.aload_n 0, 1) := by decide +kernel
theorem dX5_detach_1 : decode cX5_detach 1 = .ok (.getfield 39, 3) := by decide +kernel
theorem dX5_detach_4 : decode cX5_detach 4 = .ok (.ifnull 11, 3) := by decide +kernel
theorem dX5_detach_7 : decode cX5_detach 7 = .ok (.aload_n 0, 1) := by decide +kernel
theorem dX5_detach_8 : decode cX5_detach 8 = .ok (.getfield 39, 3) := by decide +kernel
theorem dX5_detach_11 : decode cX5_detach 11 = .ok (.iconst 0, 1) := by decide +kernel
theorem dX5_detach_12 : decode cX5_detach 12 = .ok (.putfield 43, 3) := by decide +kernel
theorem dX5_detach_15 : decode cX5_detach 15 = .ok (.aload_n 0, 1) := by decide +kernel
theorem dX5_detach_16 : decode cX5_detach 16 = .ok (.aconst_null, 1) := by decide +kernel
theorem dX5_detach_17 : decode cX5_detach 17 = .ok (.putfield 35, 3) := by decide +kernel
theorem dX5_detach_20 : decode cX5_detach 20 = .ok (.aload_n 0, 1) := by decide +kernel
theorem dX5_detach_21 : decode cX5_detach 21 = .ok (.aconst_null, 1) := by decide +kernel
theorem dX5_detach_22 : decode cX5_detach 22 = .ok (.putfield 39, 3) := by decide +kernel
theorem dX5_detach_25 : decode cX5_detach 25 = .ok (.return_, 1) := by decide +kernel
set_option maxRecDepth 100000 in
set_option maxHeartbeats 4000000 in
theorem k_pdet (l : Launch) (D : va_G) (cy : Nat → ClassId) {ad τ : List Nat} {Y : CY} {σ : SG} (hV : VL cy ad τ Y σ) {j : Nat} (hj : j < 12) {e : Nat} (he : sgR σ (yp Y j) 2 = some e) (sz : Nat) : clM l D cy ad τ Y σ sz yX5_detach (Cond.code yX5_detach cX5_detach 1 none :: vWall) 0 0 [.ref (yp Y j)] (fun v s2 => v = none ∧ sgPR (sgPR (sgPI σ e 2 0) (yp Y j) 1 none) (yp Y j) 2 none = s2) := by
  refine cl_ofW (cc := cX5_detach) (maxL := 1) (ret := none) hV (by decide) rfl (Nat.le_of_ble_eq_true rfl) (lv := [(0, .ref (yp Y j))]) rfl (fun p e s m below meth c ls H hrt hnm F hB hl => ?_) sz
  have hx := F.1.1
  have hb := F.1.2.1
  have hown := F.1.2.2.2.1
  obtain ⟨LX, LD, Ld, LE, Le, LP9, Lp, Lt, LU, LA, Lz⟩ := hV.2
  have te := k_pe hV hj he
  refine lv_aload_n hx hb dX5_detach_0 rfl (lv_at hl 0 rfl) ?_
  refine gr_X5_39 F hB dX5_detach_1 (Lp j hj).1 he ?_
  refine lv_ifnull hx hb dX5_detach_4 ?_
  refine lv_aload_n hx hb dX5_detach_7 rfl (lv_at hl 0 rfl) ?_
  refine gr_X5_39 F hB dX5_detach_8 (Lp j hj).1 he ?_
  refine lv_iconst (v := 0) hx hb dX5_detach_11 (by decide) ?_
  refine pf_X5_43 F hB dX5_detach_12 te ⟨by decide, by decide⟩ (fun H locs hBn => ?_)
  clear hB; have hB := hBn; clear hBn
  refine lv_aload_n hx hb dX5_detach_15 rfl (lv_at hl 0 rfl) ?_
  refine lv_null hx hb dX5_detach_16 ?_
  refine pn_X5_35 F hB dX5_detach_17 (Lp j hj).1 (fun H locs hBn => ?_)
  clear hB; have hB := hBn; clear hBn
  refine lv_aload_n hx hb dX5_detach_20 rfl (lv_at hl 0 rfl) ?_
  refine lv_null hx hb dX5_detach_21 ?_
  refine pn_X5_39 F hB dX5_detach_22 (Lp j hj).1 (fun H locs hBn => ?_)
  clear hB; have hB := hBn; clear hBn
  exact cl_vret F hB hrt dX5_detach_25 (⟨rfl, rfl⟩)
end CLK3
