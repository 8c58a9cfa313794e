section CLK3
theorem dX5_transferAt_0 : decode cX5_transferAt 0 = .ok (.aload_n 0, 1) := by decide +kernel
theorem dX5_transferAt_1 : decode cX5_transferAt 1 = .ok (.getfield 27, 3) := by decide +kernel
theorem dX5_transferAt_4 : decode cX5_transferAt 4 = .ok (.aload_n 0, 1) := by decide +kernel
theorem dX5_transferAt_5 : decode cX5_transferAt 5 = .ok (.getfield 65, 3) := by decide +kernel
theorem dX5_transferAt_8 : decode cX5_transferAt 8 = .ok (.iload_n 1, 1) := by decide +kernel
theorem dX5_transferAt_9 : decode cX5_transferAt 9 = .ok (.iadd, 1) := by decide +kernel
theorem dX5_transferAt_10 : decode cX5_transferAt 10 = .ok (.iconst 3, 1) := by decide +kernel
theorem dX5_transferAt_11 : decode cX5_transferAt 11 = .ok (.iand, 1) := by decide +kernel
theorem dX5_transferAt_12 : decode cX5_transferAt 12 = .ok (.aaload, 1) := by decide +kernel
theorem dX5_transferAt_13 : decode cX5_transferAt 13 = .ok (.areturn, 1) := by decide +kernel
set_option maxRecDepth 100000 in
set_option maxHeartbeats 4000000 in
theorem k_trAt (l : Launch) (D : va_G) (cy : Nat → ClassId) {ad τ : List Nat} {Y : CY} {σ : SG} (hV : VL cy ad τ Y σ) {j : Nat} (hj : j < 12) (x : Int32) (sz : Nat) : clM l D cy ad τ Y σ sz yX5_transferAt (Cond.code yX5_transferAt cX5_transferAt 2 (some (.object "Hubcascade$Transfer")) :: vWall) 0 0 [.ref (yp Y j), .int x] (fun v s2 => v = some (.ref (yt Y j ((sgI σ (yp Y j) 12 + x) &&& 3).toInt.toNat)) ∧ σ = s2) := by
  refine cl_ofW (cc := cX5_transferAt) (maxL := 2) (ret := (some (.object "Hubcascade$Transfer"))) hV (by decide) rfl (Nat.le_of_ble_eq_true rfl) (lv := [(0, .ref (yp Y j)), (1, .int x)]) rfl (fun p e s m below meth c ls H hrt hnm F hB hl => ?_) sz
  have hx := F.1.1
  have hb := F.1.2.1
  have hown := F.1.2.2.2.1
  obtain ⟨LX, LD, Ld, LE, Le, LP9, Lp, Lt, LU, LA, Lz⟩ := hV.2
  refine lv_aload_n hx hb dX5_transferAt_0 rfl (lv_at hl 0 rfl) ?_
  refine gr_X5_27 F hB dX5_transferAt_1 (Lp j hj).1 (Lp j hj).2.2 ?_
  refine lv_aload_n hx hb dX5_transferAt_4 rfl (lv_at hl 0 rfl) ?_
  refine gf_X5_65 F hB dX5_transferAt_5 (Lp j hj).1 ?_
  refine lv_iload_n hx hb dX5_transferAt_8 rfl (lv_at hl 1 rfl) ?_
  refine lv_iadd hx hb dX5_transferAt_9 ?_
  refine lv_iconst (v := 3) hx hb dX5_transferAt_10 (by decide) ?_
  refine lv_iand hx hb dX5_transferAt_11 ?_
  have h3 := c_and3 (sgI σ (yp Y j) 12 + x)
  refine sg_aald 7 hx hb F.2.1 hB.1 rfl rfl dX5_transferAt_12 (Lt j hj).1 h3.1 (by rw [(Lt j hj).2.1]; omega) (by rw [(Lt j hj).2.1]; decide) ?_
  rw [show sgR _ _ _ = some _ from ((Lt j hj).2.2 _ (by omega)).1]
  exact cl_aret F hB hrt (Or.inl ⟨_, rfl⟩) (Or.inr ⟨_, rfl⟩) dX5_transferAt_13 (⟨rfl, rfl⟩)

theorem dX5_dropFirst_0 : decode cX5_dropFirst 0 = .ok (.aload_n 0, 1) := by decide +kernel
theorem dX5_dropFirst_1 : decode cX5_dropFirst 1 = .ok (.aload_n 0, 1) := by decide +kernel
theorem dX5_dropFirst_2 : decode cX5_dropFirst 2 = .ok (.getfield 65, 3) := by decide +kernel
theorem dX5_dropFirst_5 : decode cX5_dropFirst 5 = .ok (.iconst 1, 1) := by decide +kernel
theorem dX5_dropFirst_6 : decode cX5_dropFirst 6 = .ok (.iadd, 1) := by decide +kernel
theorem dX5_dropFirst_7 : decode cX5_dropFirst 7 = .ok (.iconst 3, 1) := by decide +kernel
theorem dX5_dropFirst_8 : decode cX5_dropFirst 8 = .ok (.iand, 1) := by decide +kernel
theorem dX5_dropFirst_9 : decode cX5_dropFirst 9 = .ok (.putfield 65, 3) := by decide +kernel
theorem dX5_dropFirst_12 : decode cX5_dropFirst 12 = .ok (.aload_n 0, 1) := by decide +kernel
theorem dX5_dropFirst_13 : decode cX5_dropFirst 13 = .ok (.dup, 1) := by decide +kernel
theorem dX5_dropFirst_14 : decode cX5_dropFirst 14 = .ok (.getfield 68, 3) := by decide +kernel
theorem dX5_dropFirst_17 : decode cX5_dropFirst 17 = .ok (.iconst 1, 1) := by decide +kernel
theorem dX5_dropFirst_18 : decode cX5_dropFirst 18 = .ok (.isub, 1) := by decide +kernel
theorem dX5_dropFirst_19 : decode cX5_dropFirst 19 = .ok (.putfield 68, 3) := by decide +kernel
theorem dX5_dropFirst_22 : decode cX5_dropFirst 22 = .ok (.return_, 1) := by decide +kernel
set_option maxRecDepth 100000 in
set_option maxHeartbeats 4000000 in
theorem k_drop (l : Launch) (D : va_G) (cy : Nat → ClassId) {ad τ : List Nat} {Y : CY} {σ : SG} (hV : VL cy ad τ Y σ) {j : Nat} (hj : j < 12) (h1 : 1 ≤ (sgI σ (yp Y j) 13).toInt) (sz : Nat) : clM l D cy ad τ Y σ sz yX5_dropFirst (Cond.code yX5_dropFirst cX5_dropFirst 1 none :: vWall) 0 0 [.ref (yp Y j)] (fun v s2 => v = none ∧ sgPI (sgPI σ (yp Y j) 12 ((sgI σ (yp Y j) 12 + 1) &&& 3)) (yp Y j) 13 (sgI σ (yp Y j) 13 - 1) = s2) := by
  refine cl_ofW (cc := cX5_dropFirst) (maxL := 1) (ret := none) hV (by decide) rfl (Nat.le_of_ble_eq_true rfl) (lv := [(0, .ref (yp Y j))]) rfl (fun p e s m below meth c ls H hrt hnm F hB hl => ?_) sz
  have hx := F.1.1
  have hb := F.1.2.1
  have hown := F.1.2.2.2.1
  obtain ⟨LX, LD, Ld, LE, Le, LP9, Lp, Lt, LU, LA, Lz⟩ := hV.2
  have h4 := VT_in (ci := 10) (k := 13) (t := 0) (lo := 0) (hi := 4) hV.1 (Lp j hj).1 (by decide) rfl (by decide) (by decide +kernel)
  have e1 : (1 : Int32).toInt = 1 := rfl
  have e9 : (sgI σ (yp Y j) 13 - 1).toInt = (sgI σ (yp Y j) 13).toInt - 1 := by rw [i_sub (by rw [e1]; omega) (by rw [e1]; omega), e1]
  refine lv_aload_n hx hb dX5_dropFirst_0 rfl (lv_at hl 0 rfl) ?_
  refine lv_aload_n hx hb dX5_dropFirst_1 rfl (lv_at hl 0 rfl) ?_
  refine gf_X5_65 F hB dX5_dropFirst_2 (Lp j hj).1 ?_
  refine lv_iconst (v := 1) hx hb dX5_dropFirst_5 (by decide) ?_
  refine lv_iadd hx hb dX5_dropFirst_6 ?_
  refine lv_iconst (v := 3) hx hb dX5_dropFirst_7 (by decide) ?_
  refine lv_iand hx hb dX5_dropFirst_8 ?_
  refine pf_X5_65 F hB dX5_dropFirst_9 (Lp j hj).1 (fun H locs hBn => ?_)
  clear hB; have hB := hBn; clear hBn
  refine lv_aload_n hx hb dX5_dropFirst_12 rfl (lv_at hl 0 rfl) ?_
  refine lv_dup hx hb dX5_dropFirst_13 rfl ?_
  refine gf_X5_68 F hB dX5_dropFirst_14 (Lp j hj).1 ?_
  rw [c_nk (by decide)]
  refine lv_iconst (v := 1) hx hb dX5_dropFirst_17 (by decide) ?_
  refine lv_isub hx hb dX5_dropFirst_18 ?_
  refine pf_X5_68 F hB dX5_dropFirst_19 (Lp j hj).1 ⟨by rw [e9]; omega, by rw [e9]; omega⟩ (fun H locs hBn => ?_)
  clear hB; have hB := hBn; clear hBn
  exact cl_vret F hB hrt dX5_dropFirst_22 (⟨rfl, rfl⟩)

theorem dX5_detach_0 : decode cX5_detach 0 = .ok (.aload_n 0, 1) := by decide +kernel
theorem dX5_detach_1 : decode cX5_detach 1 = .ok (.getfield 39, 3) := by decide +kernel
theorem dX5_detach_4 : decode cX5_detach 4 = .ok (.ifnull 11, 3) := by decide +kernel
theorem dX5_detach_7 : decode cX5_detach 7 = .ok (.aload_n 0, 1) := by decide +kernel
theorem dX5_detach_8 : decode cX5_detach 8 = .ok (.getfield 39, 3) := by decide +kernel
theorem dX5_detach_11 : decode cX5_detach 11 = .ok (.iconst 0, 1) := by decide +kernel
theorem dX5_detach_12 : decode cX5_detach 12 = .ok (.putfield 43, 3) := by decide +kernel
theorem dX5_detach_15 : decode cX5_detach 15 = .ok (.aload_n 0, 1) := by decide +kernel
theorem dX5_detach_16 : decode cX5_detach 16 = .ok (.aconst_null, 1) := by decide +kernel
theorem dX5_detach_17 : decode cX5_detach 17 = .ok (.putfield 35, 3) := by decide +kernel
theorem dX5_detach_20 : decode cX5_detach 20 = .ok (.aload_n 0, 1) := by decide +kernel
theorem dX5_detach_21 : decode cX5_detach 21 = .ok (.aconst_null, 1) := by decide +kernel
theorem dX5_detach_22 : decode cX5_detach 22 = .ok (.putfield 39, 3) := by decide +kernel
theorem dX5_detach_25 : decode cX5_detach 25 = .ok (.return_, 1) := by decide +kernel
set_option maxRecDepth 100000 in
set_option maxHeartbeats 4000000 in
theorem k_pdet (l : Launch) (D : va_G) (cy : Nat → ClassId) {ad τ : List Nat} {Y : CY} {σ : SG} (hV : VL cy ad τ Y σ) {j : Nat} (hj : j < 12) {e : Nat} (he : sgR σ (yp Y j) 2 = some e) (sz : Nat) : clM l D cy ad τ Y σ sz yX5_detach (Cond.code yX5_detach cX5_detach 1 none :: vWall) 0 0 [.ref (yp Y j)] (fun v s2 => v = none ∧ sgPR (sgPR (sgPI σ e 2 0) (yp Y j) 1 none) (yp Y j) 2 none = s2) := by
  refine cl_ofW (cc := cX5_detach) (maxL := 1) (ret := none) hV (by decide) rfl (Nat.le_of_ble_eq_true rfl) (lv := [(0, .ref (yp Y j))]) rfl (fun p e s m below meth c ls H hrt hnm F hB hl => ?_) sz
  have hx := F.1.1
  have hb := F.1.2.1
  have hown := F.1.2.2.2.1
  obtain ⟨LX, LD, Ld, LE, Le, LP9, Lp, Lt, LU, LA, Lz⟩ := hV.2
  have te := k_pe hV hj he
  refine lv_aload_n hx hb dX5_detach_0 rfl (lv_at hl 0 rfl) ?_
  refine gr_X5_39 F hB dX5_detach_1 (Lp j hj).1 he ?_
  refine lv_ifnull hx hb dX5_detach_4 ?_
  refine lv_aload_n hx hb dX5_detach_7 rfl (lv_at hl 0 rfl) ?_
  refine gr_X5_39 F hB dX5_detach_8 (Lp j hj).1 he ?_
  refine lv_iconst (v := 0) hx hb dX5_detach_11 (by decide) ?_
  refine pf_X5_43 F hB dX5_detach_12 te ⟨by decide, by decide⟩ (fun H locs hBn => ?_)
  clear hB; have hB := hBn; clear hBn
  refine lv_aload_n hx hb dX5_detach_15 rfl (lv_at hl 0 rfl) ?_
  refine lv_null hx hb dX5_detach_16 ?_
  refine pn_X5_35 F hB dX5_detach_17 (Lp j hj).1 (fun H locs hBn => ?_)
  clear hB; have hB := hBn; clear hBn
  refine lv_aload_n hx hb dX5_detach_20 rfl (lv_at hl 0 rfl) ?_
  refine lv_null hx hb dX5_detach_21 ?_
  refine pn_X5_39 F hB dX5_detach_22 (Lp j hj).1 (fun H locs hBn => ?_)
  clear hB; have hB := hBn; clear hBn
  exact cl_vret F hB hrt dX5_detach_25 (⟨rfl, rfl⟩)

theorem dX1_leave_0 : decode cX1_leave 0 = .ok (.aload_n 0, 1) := by decide +kernel
theorem dX1_leave_1 : decode cX1_leave 1 = .ok (.bipush 117, 2) := by decide +kernel
theorem dX1_leave_3 : decode cX1_leave 3 = .ok (.putfield 15, 3) := by decide +kernel
theorem dX1_leave_6 : decode cX1_leave 6 = .ok (.aload_n 0, 1) := by decide +kernel
theorem dX1_leave_7 : decode cX1_leave 7 = .ok (.aconst_null, 1) := by decide +kernel
theorem dX1_leave_8 : decode cX1_leave 8 = .ok (.putfield 52, 3) := by decide +kernel
theorem dX1_leave_11 : decode cX1_leave 11 = .ok (.aload_n 0, 1) := by decide +kernel
theorem dX1_leave_12 : decode cX1_leave 12 = .ok (.iconst (-1), 1) := by decide +kernel
theorem dX1_leave_13 : decode cX1_leave 13 = .ok (.putfield 18, 3) := by decide +kernel
theorem dX1_leave_16 : decode cX1_leave 16 = .ok (.aload_n 0, 1) := by decide +kernel
theorem dX1_leave_17 : decode cX1_leave 17 = .ok (.aload_n 0, 1) := by decide +kernel
theorem dX1_leave_18 : decode cX1_leave 18 = .ok (.getfield 9, 3) := by decide +kernel
theorem dX1_leave_21 : decode cX1_leave 21 = .ok (.putfield 22, 3) := by decide +kernel
theorem dX1_leave_24 : decode cX1_leave 24 = .ok (.aload_n 0, 1) := by decide +kernel
theorem dX1_leave_25 : decode cX1_leave 25 = .ok (.iconst (-1), 1) := by decide +kernel
theorem dX1_leave_26 : decode cX1_leave 26 = .ok (.putfield 25, 3) := by decide +kernel
theorem dX1_leave_29 : decode cX1_leave 29 = .ok (.aload_n 0, 1) := by decide +kernel
theorem dX1_leave_30 : decode cX1_leave 30 = .ok (.iconst 0, 1) := by decide +kernel
theorem dX1_leave_31 : decode cX1_leave 31 = .ok (.putfield 56, 3) := by decide +kernel
theorem dX1_leave_34 : decode cX1_leave 34 = .ok (.aload_n 0, 1) := by decide +kernel
theorem dX1_leave_35 : decode cX1_leave 35 = .ok (.iconst (-1), 1) := by decide +kernel
theorem dX1_leave_36 : decode cX1_leave 36 = .ok (.putfield 28, 3) := by decide +kernel
theorem dX1_leave_39 : decode cX1_leave 39 = .ok (.aload_n 0, 1) := by decide +kernel
theorem dX1_leave_40 : decode cX1_leave 40 = .ok (.iconst 0, 1) := by decide +kernel
theorem dX1_leave_41 : decode cX1_leave 41 = .ok (.putfield 59, 3) := by decide +kernel
theorem dX1_leave_44 : decode cX1_leave 44 = .ok (.return_, 1) := by decide +kernel
set_option maxRecDepth 100000 in
set_option maxHeartbeats 4000000 in
theorem k_leave (l : Launch) (D : va_G) (cy : Nat → ClassId) {ad τ : List Nat} {Y : CY} {σ : SG} (hV : VL cy ad τ Y σ) {d : Nat} (hd : sgT σ d = 7) (sz : Nat) : clM l D cy ad τ Y σ sz yX1_leave (Cond.code yX1_leave cX1_leave 1 none :: vWall) 0 0 [.ref d] (fun v s2 => v = none ∧ gone d σ s2) := by
  refine cl_ofW (cc := cX1_leave) (maxL := 1) (ret := none) hV (by decide) rfl (Nat.le_of_ble_eq_true rfl) (lv := [(0, .ref d)]) rfl (fun p e s m below meth c ls H hrt hnm F hB hl => ?_) sz
  have hx := F.1.1
  have hb := F.1.2.1
  have hown := F.1.2.2.2.1
  refine lv_aload_n hx hb dX1_leave_0 rfl (lv_at hl 0 rfl) ?_
  refine lv_bipush (v := 117) hx hb dX1_leave_1 (by decide) ?_
  refine pf_X1_15 F hB dX1_leave_3 hd ⟨by decide, by decide⟩ (fun H locs hBn => ?_)
  clear hB; have hB := hBn; clear hBn
  refine lv_aload_n hx hb dX1_leave_6 rfl (lv_at hl 0 rfl) ?_
  refine lv_null hx hb dX1_leave_7 ?_
  refine pn_X1_52 F hB dX1_leave_8 hd (fun H locs hBn => ?_)
  clear hB; have hB := hBn; clear hBn
  refine lv_aload_n hx hb dX1_leave_11 rfl (lv_at hl 0 rfl) ?_
  refine lv_iconst (v := (-1)) hx hb dX1_leave_12 (by decide) ?_
  refine pf_X1_18 F hB dX1_leave_13 hd (fun H locs hBn => ?_)
  clear hB; have hB := hBn; clear hBn
  refine lv_aload_n hx hb dX1_leave_16 rfl (lv_at hl 0 rfl) ?_
  refine lv_aload_n hx hb dX1_leave_17 rfl (lv_at hl 0 rfl) ?_
  refine gf_X1_9 F hB dX1_leave_18 hd ?_
  refine pf_X1_22 F hB dX1_leave_21 hd (VT_in (ci := 6) (k := 1) (t := 1) (lo := 0) (hi := 65535) hB.2.1 hd (by decide) rfl (by decide) (by decide +kernel)) (fun H locs hBn => ?_)
  clear hB; have hB := hBn; clear hBn
  refine lv_aload_n hx hb dX1_leave_24 rfl (lv_at hl 0 rfl) ?_
  refine lv_iconst (v := (-1)) hx hb dX1_leave_25 (by decide) ?_
  refine pf_X1_25 F hB dX1_leave_26 hd (fun H locs hBn => ?_)
  clear hB; have hB := hBn; clear hBn
  refine lv_aload_n hx hb dX1_leave_29 rfl (lv_at hl 0 rfl) ?_
  refine lv_iconst (v := 0) hx hb dX1_leave_30 (by decide) ?_
  refine pf_X1_56 F hB dX1_leave_31 hd (fun H locs hBn => ?_)
  clear hB; have hB := hBn; clear hBn
  refine lv_aload_n hx hb dX1_leave_34 rfl (lv_at hl 0 rfl) ?_
  refine lv_iconst (v := (-1)) hx hb dX1_leave_35 (by decide) ?_
  refine pf_X1_28 F hB dX1_leave_36 hd (fun H locs hBn => ?_)
  clear hB; have hB := hBn; clear hBn
  refine lv_aload_n hx hb dX1_leave_39 rfl (lv_at hl 0 rfl) ?_
  refine lv_iconst (v := 0) hx hb dX1_leave_40 (by decide) ?_
  refine pf_X1_59 F hB dX1_leave_41 hd (fun H locs hBn => ?_)
  clear hB; have hB := hBn; clear hBn
  exact cl_vret F hB hrt dX1_leave_44 (⟨rfl, gone_ok⟩)

theorem dX8_reserve_0 : decode cX8_reserve 0 = .ok (.iload_n 1, 1) := by decide +kernel
theorem dX8_reserve_1 : decode cX8_reserve 1 = .ok (.ifCond .lt 9, 3) := by decide +kernel
theorem dX8_reserve_4 : decode cX8_reserve 4 = .ok (.iload_n 1, 1) := by decide +kernel
theorem dX8_reserve_5 : decode cX8_reserve 5 = .ok (.bipush 8, 2) := by decide +kernel
theorem dX8_reserve_7 : decode cX8_reserve 7 = .ok (.if_icmp .lt 4, 3) := by decide +kernel
theorem dX8_reserve_11 : decode cX8_reserve 11 = .ok (.aload_n 0, 1) := by decide +kernel
theorem dX8_reserve_12 : decode cX8_reserve 12 = .ok (.getfield 9, 3) := by decide +kernel
theorem dX8_reserve_15 : decode cX8_reserve 15 = .ok (.iload_n 1, 1) := by decide +kernel
theorem dX8_reserve_16 : decode cX8_reserve 16 = .ok (.dup2, 1) := by decide +kernel
theorem dX8_reserve_17 : decode cX8_reserve 17 = .ok (.iaload, 1) := by decide +kernel
theorem dX8_reserve_18 : decode cX8_reserve 18 = .ok (.iload_n 2, 1) := by decide +kernel
theorem dX8_reserve_19 : decode cX8_reserve 19 = .ok (.iadd, 1) := by decide +kernel
theorem dX8_reserve_20 : decode cX8_reserve 20 = .ok (.iastore, 1) := by decide +kernel
theorem dX8_reserve_21 : decode cX8_reserve 21 = .ok (.iload_n 3, 1) := by decide +kernel
theorem dX8_reserve_22 : decode cX8_reserve 22 = .ok (.ifCond .lt 25, 3) := by decide +kernel
theorem dX8_reserve_25 : decode cX8_reserve 25 = .ok (.iload_n 3, 1) := by decide +kernel
theorem dX8_reserve_26 : decode cX8_reserve 26 = .ok (.bipush 16, 2) := by decide +kernel
theorem dX8_reserve_28 : decode cX8_reserve 28 = .ok (.if_icmp .ge 19, 3) := by decide +kernel
theorem dX8_reserve_47 : decode cX8_reserve 47 = .ok (.return_, 1) := by decide +kernel
set_option maxRecDepth 100000 in
set_option maxHeartbeats 4000000 in
theorem k_resA (l : Launch) (D : va_G) (cy : Nat → ClassId) {ad τ : List Nat} {Y : CY} {σ : SG} (hV : VL cy ad τ Y σ) (f u h w : Int32) (f0 : 0 ≤ f.toInt) (f1 : f.toInt < 8) (hh : h.toInt < 0 ∨ 16 ≤ h.toInt) (sz : Nat) : clM l D cy ad τ Y σ sz yX8_reserve (Cond.code yX8_reserve cX8_reserve 5 none :: vWall) 0 0 [.ref (yu Y), .int f, .int u, .int h, .int w] (fun v s2 => v = none ∧ (sgPI σ (yh Y) f.toInt.toNat (sgI σ (yh Y) f.toInt.toNat + u)) = s2) := by
  refine cl_ofW (cc := cX8_reserve) (maxL := 5) (ret := none) hV (by decide) rfl (Nat.le_of_ble_eq_true rfl) (lv := [(0, .ref (yu Y)), (1, .int f), (2, .int u), (3, .int h), (4, .int w)]) rfl (fun p e s m below meth c ls H hrt hnm F hB hl => ?_) sz
  have hx := F.1.1
  have hb := F.1.2.1
  have hown := F.1.2.2.2.1
  obtain ⟨LX, LD, Ld, LE, Le, LP9, Lp, Lt, LU, LA, Lz⟩ := hV.2
  have e0 : (0 : Int32).toInt = 0 := rfl
  have e8 : (8 : Int32).toInt = 8 := rfl
  have e16 : (16 : Int32).toInt = 16 := rfl
  refine lv_iload_n hx hb dX8_reserve_0 rfl (lv_at hl 1 rfl) ?_
  refine lv_if_lt (tgt := 10) hx hb dX8_reserve_1 (by decide) (fun c1 => ((by have := i_lt c1; omega : False)).elim) (fun c1 => ?_)
  refine lv_iload_n hx hb dX8_reserve_4 rfl (lv_at hl 1 rfl) ?_
  refine lv_bipush (v := 8) hx hb dX8_reserve_5 (by decide) ?_
  refine lv_icmp_lt (tgt := 11) hx hb dX8_reserve_7 (by decide) (fun c7 => ?_) (fun c7 => ((by have := i_nlt c7; omega : False)).elim)
  refine lv_aload_n hx hb dX8_reserve_11 rfl (lv_at hl 0 rfl) ?_
  refine gr_X8_9 F hB dX8_reserve_12 LU.1 LU.2.1 ?_
  refine lv_iload_n hx hb dX8_reserve_15 rfl (lv_at hl 1 rfl) ?_
  refine lv_dup2_11 hx hb dX8_reserve_16 rfl rfl ?_
  refine sg_iald hx hb F.2.1 hB.1 dX8_reserve_17 LA.1 f0 (by rw [LA.2.1]; omega) (by rw [LA.2.1]; decide) ?_
  refine lv_iload_n hx hb dX8_reserve_18 rfl (lv_at hl 2 rfl) ?_
  refine lv_iadd hx hb dX8_reserve_19 ?_
  refine cl_iast F hB dX8_reserve_20 LA.1 f0 (by rw [LA.2.1]; omega) (by rw [LA.2.1]; decide) (fun H locs hBn => ?_)
  clear hB; have hB := hBn; clear hBn
  refine lv_iload_n hx hb dX8_reserve_21 rfl (lv_at hl 3 rfl) ?_
  refine lv_if_lt (tgt := 47) hx hb dX8_reserve_22 (by decide) (fun c22 => ?_) (fun c22 => ?_)
  · exact cl_vret F hB hrt dX8_reserve_47 (⟨rfl, rfl⟩)
  · refine lv_iload_n hx hb dX8_reserve_25 rfl (lv_at hl 3 rfl) ?_
    refine lv_bipush (v := 16) hx hb dX8_reserve_26 (by decide) ?_
    refine lv_icmp_ge (tgt := 47) hx hb dX8_reserve_28 (by decide) (fun c28 => ?_) (fun c28 => ((by have := i_nle c28; have := i_nlt c22; omega : False)).elim)
    exact cl_vret F hB hrt dX8_reserve_47 (⟨rfl, rfl⟩)

theorem dX8_reserve_31 : decode cX8_reserve 31 = .ok (.aload_n 0, 1) := by decide +kernel
theorem dX8_reserve_32 : decode cX8_reserve 32 = .ok (.getfield 15, 3) := by decide +kernel
theorem dX8_reserve_35 : decode cX8_reserve 35 = .ok (.iload_n 3, 1) := by decide +kernel
theorem dX8_reserve_36 : decode cX8_reserve 36 = .ok (.bipush 8, 2) := by decide +kernel
theorem dX8_reserve_38 : decode cX8_reserve 38 = .ok (.imul, 1) := by decide +kernel
theorem dX8_reserve_39 : decode cX8_reserve 39 = .ok (.iload_n 1, 1) := by decide +kernel
theorem dX8_reserve_40 : decode cX8_reserve 40 = .ok (.iadd, 1) := by decide +kernel
theorem dX8_reserve_41 : decode cX8_reserve 41 = .ok (.dup2, 1) := by decide +kernel
theorem dX8_reserve_42 : decode cX8_reserve 42 = .ok (.iaload, 1) := by decide +kernel
theorem dX8_reserve_43 : decode cX8_reserve 43 = .ok (.iload 4, 2) := by decide +kernel
theorem dX8_reserve_45 : decode cX8_reserve 45 = .ok (.iadd, 1) := by decide +kernel
theorem dX8_reserve_46 : decode cX8_reserve 46 = .ok (.iastore, 1) := by decide +kernel
set_option maxRecDepth 100000 in
set_option maxHeartbeats 4000000 in
theorem k_resB (l : Launch) (D : va_G) (cy : Nat → ClassId) {ad τ : List Nat} {Y : CY} {σ : SG} (hV : VL cy ad τ Y σ) (f u h w : Int32) (f0 : 0 ≤ f.toInt) (f1 : f.toInt < 8) (h0 : 0 ≤ h.toInt) (h1 : h.toInt < 16) (sz : Nat) : clM l D cy ad τ Y σ sz yX8_reserve (Cond.code yX8_reserve cX8_reserve 5 none :: vWall) 0 0 [.ref (yu Y), .int f, .int u, .int h, .int w] (fun v s2 => v = none ∧ sgPI (sgPI σ (yh Y) f.toInt.toNat (sgI σ (yh Y) f.toInt.toNat + u)) (yk Y) (h * 8 + f).toInt.toNat (sgI (sgPI σ (yh Y) f.toInt.toNat (sgI σ (yh Y) f.toInt.toNat + u)) (yk Y) (h * 8 + f).toInt.toNat + w) = s2) := by
  refine cl_ofW (cc := cX8_reserve) (maxL := 5) (ret := none) hV (by decide) rfl (Nat.le_of_ble_eq_true rfl) (lv := [(0, .ref (yu Y)), (1, .int f), (2, .int u), (3, .int h), (4, .int w)]) rfl (fun p e s m below meth c ls H hrt hnm F hB hl => ?_) sz
  have hx := F.1.1
  have hb := F.1.2.1
  have hown := F.1.2.2.2.1
  obtain ⟨LX, LD, Ld, LE, Le, LP9, Lp, Lt, LU, LA, Lz⟩ := hV.2
  have e0 : (0 : Int32).toInt = 0 := rfl
  have e8 : (8 : Int32).toInt = 8 := rfl
  have e16 : (16 : Int32).toInt = 16 := rfl
  have hx9 := ix_t h0 h1 f0 f1
  refine lv_iload_n hx hb dX8_reserve_0 rfl (lv_at hl 1 rfl) ?_
  refine lv_if_lt (tgt := 10) hx hb dX8_reserve_1 (by decide) (fun c1 => ((by have := i_lt c1; omega : False)).elim) (fun c1 => ?_)
  refine lv_iload_n hx hb dX8_reserve_4 rfl (lv_at hl 1 rfl) ?_
  refine lv_bipush (v := 8) hx hb dX8_reserve_5 (by decide) ?_
  refine lv_icmp_lt (tgt := 11) hx hb dX8_reserve_7 (by decide) (fun c7 => ?_) (fun c7 => ((by have := i_nlt c7; omega : False)).elim)
  refine lv_aload_n hx hb dX8_reserve_11 rfl (lv_at hl 0 rfl) ?_
  refine gr_X8_9 F hB dX8_reserve_12 LU.1 LU.2.1 ?_
  refine lv_iload_n hx hb dX8_reserve_15 rfl (lv_at hl 1 rfl) ?_
  refine lv_dup2_11 hx hb dX8_reserve_16 rfl rfl ?_
  refine sg_iald hx hb F.2.1 hB.1 dX8_reserve_17 LA.1 f0 (by rw [LA.2.1]; omega) (by rw [LA.2.1]; decide) ?_
  refine lv_iload_n hx hb dX8_reserve_18 rfl (lv_at hl 2 rfl) ?_
  refine lv_iadd hx hb dX8_reserve_19 ?_
  refine cl_iast F hB dX8_reserve_20 LA.1 f0 (by rw [LA.2.1]; omega) (by rw [LA.2.1]; decide) (fun H locs hBn => ?_)
  clear hB; have hB := hBn; clear hBn
  refine lv_iload_n hx hb dX8_reserve_21 rfl (lv_at hl 3 rfl) ?_
  refine lv_if_lt (tgt := 47) hx hb dX8_reserve_22 (by decide) (fun c22 => ((by have := i_lt c22; omega : False)).elim) (fun c22 => ?_)
  refine lv_iload_n hx hb dX8_reserve_25 rfl (lv_at hl 3 rfl) ?_
  refine lv_bipush (v := 16) hx hb dX8_reserve_26 (by decide) ?_
  refine lv_icmp_ge (tgt := 47) hx hb dX8_reserve_28 (by decide) (fun c28 => ((by have := i_le c28; omega : False)).elim) (fun c28 => ?_)
  refine lv_aload_n hx hb dX8_reserve_31 rfl (lv_at hl 0 rfl) ?_
  refine gr_X8_15 F hB dX8_reserve_32 LU.1 LU.2.2 ?_
  refine lv_iload_n hx hb dX8_reserve_35 rfl (lv_at hl 3 rfl) ?_
  refine lv_bipush (v := 8) hx hb dX8_reserve_36 (by decide) ?_
  refine lv_imul hx hb dX8_reserve_38 ?_
  refine lv_iload_n hx hb dX8_reserve_39 rfl (lv_at hl 1 rfl) ?_
  refine lv_iadd hx hb dX8_reserve_40 ?_
  refine lv_dup2_11 hx hb dX8_reserve_41 rfl rfl ?_
  refine sg_iald hx hb F.2.1 hB.1 dX8_reserve_42 LA.2.2.1 (by rw [hx9]; omega) (by rw [hx9]; show _ < ((sgN σ (yk Y) : Nat) : Int); rw [LA.2.2.2]; omega) (by show sgN σ (yk Y) < _; rw [LA.2.2.2]; decide) ?_
  refine lv_iload hx hb dX8_reserve_43 (lv_at hl 4 rfl) ?_
  refine lv_iadd hx hb dX8_reserve_45 ?_
  refine cl_iast F hB dX8_reserve_46 LA.2.2.1 (by rw [hx9]; omega) (by rw [hx9]; show _ < ((sgN σ (yk Y) : Nat) : Int); rw [LA.2.2.2]; omega) (by show sgN σ (yk Y) < _; rw [LA.2.2.2]; decide) (fun H locs hBn => ?_)
  clear hB; have hB := hBn; clear hBn
  exact cl_vret F hB hrt dX8_reserve_47 (⟨rfl, rfl⟩)
end CLK3
