section MM14
theorem dX14_hubOf_0 : decode cX14_hubOf 0 = .ok (.aload_n 0, 1) := by decide +kernel
theorem dX14_hubOf_1 : decode cX14_hubOf 1 = .ok (.iload_n 1, 1) := by decide +kernel
theorem dX14_hubOf_2 : decode cX14_hubOf 2 = .ok (.invokevirtual 90, 3) := by decide +kernel
theorem dX14_hubOf_5 : decode cX14_hubOf 5 = .ok (.ifCond .eq 7, 3) := by decide +kernel
theorem dX14_hubOf_8 : decode cX14_hubOf 8 = .ok (.iconst 0, 1) := by decide +kernel
theorem dX14_hubOf_9 : decode cX14_hubOf 9 = .ok (.goto 17, 3) := by decide +kernel
theorem dX14_hubOf_12 : decode cX14_hubOf 12 = .ok (.aload_n 0, 1) := by decide +kernel
theorem dX14_hubOf_13 : decode cX14_hubOf 13 = .ok (.getfield 10, 3) := by decide +kernel
theorem dX14_hubOf_16 : decode cX14_hubOf 16 = .ok (.iload_n 1, 1) := by decide +kernel
theorem dX14_hubOf_17 : decode cX14_hubOf 17 = .ok (.invokevirtual 76, 3) := by decide +kernel
theorem dX14_hubOf_20 : decode cX14_hubOf 20 = .ok (.checkcast 48, 3) := by decide +kernel
theorem dX14_hubOf_23 : decode cX14_hubOf 23 = .ok (.getfield 80, 3) := by decide +kernel
theorem dX14_hubOf_26 : decode cX14_hubOf 26 = .ok (.ireturn, 1) := by decide +kernel
set_option maxRecDepth 100000 in
set_option maxHeartbeats 4000000 in
theorem m_hubOf (l : Launch) (D : va_G) (cy : Nat → ClassId) {eda ca : Nat} {ia : Nat → Nat} {σ : SG} {K : KM} {g : GH} {n S hw : Nat} (h : Inv eda ia K g n S hw σ) (x : Int32) (sz : Nat) : sgM l D cy eda ca ia σ sz yX14_hubOf (Cond.code yX14_hubOf cX14_hubOf 2 (some .int) :: mWall) 3 64 0 0 [.ref (kA K), .int x] (fun v σ2 => (∃ y : Int32, v = some (.int y)) ∧ Inv eda ia K g n S hw σ2) := by
  refine sg_ofW (cc := cX14_hubOf) (maxL := 2) (ret := (some .int)) (by decide) rfl (Nat.le_of_ble_eq_true rfl) (lv := [(0, .ref (kA K)), (1, .int x)]) rfl (fun p e s m below meth c ls H N hrt hnm F hB hl => ?_) sz
  have hx := F.1.1
  have hb := F.1.2.1
  have hown := F.1.2.2.2.1
  obtain ⟨m0, m1, m2, m3, m4, m5, m6, m7, ⟨d1, d2⟩, ⟨r1, r2⟩, ⟨y1, y2⟩, ⟨e1, e2⟩, ⟨g1, g2⟩, ⟨p1, p2⟩, ⟨h1, h2⟩, ⟨ev, n9, n10, n11⟩, n12⟩ := inv_Mr h
  refine lv_aload_n hx hb dX14_hubOf_0 rfl (lv_at hl 0 rfl) ?_
  refine lv_iload_n hx hb dX14_hubOf_1 rfl (lv_at hl 1 rfl) ?_
  refine sg_callV (ci := 19) F hB (m_noDevice l D cy h x _) (cwV 1 F.1.2.2.2.2 (mgV (mm_4 _ (List.mem_of_getElem? (i := 17) rfl)) (mm_4 _ (List.mem_of_getElem? (i := 18) rfl)) (mm_4 _ (List.mem_of_getElem? (i := 19) rfl)) (mm_3 _ (List.mem_of_getElem? (i := 23) rfl)) (mm_3 _ (List.mem_of_getElem? (i := 24) rfl))) rfl rfl rfl ⟨rfl, by decide, by decide, by decide +kernel⟩ ⟨Nat.le_of_ble_eq_true rfl, Nat.le_of_ble_eq_true rfl⟩) rfl rfl (by decide) rfl hl.1 rfl (Nat.le_of_ble_eq_true rfl) dX14_hubOf_2 (Nat.le_of_ble_eq_true rfl) (Nat.add_le_add_right (Nat.le_of_ble_eq_true rfl) _) (by assumption) (fun H locs v σ2 N hBn hX2 hP => ?_)
  clear hB; have hB := hBn; clear hBn
  obtain ⟨y, b, rfl, rfl, hb9⟩ := hP
  have h2 := inv_th h y
  refine lv_if_eq (tgt := 12) hx hb dX14_hubOf_5 (by decide) (fun c5 => ?_) (fun c5 => ?_)
  · have hx5 := Classical.not_not.mp (sgb_f hb9 c5)
    refine lv_aload_n hx hb dX14_hubOf_12 rfl (lv_at hl 0 rfl) ?_
    refine gr_X14_10 F hB dX14_hubOf_13 (by assumption) m1 ?_
    refine lv_iload_n hx hb dX14_hubOf_16 rfl (lv_at hl 1 rfl) ?_
    refine sg_callV (ci := 4) F hB (m_getD l D cy h2 x (by omega) (by omega) _) (cwV 1 F.1.2.2.2.2 (mgV (mm_4 _ (List.mem_of_getElem? (i := 3) rfl)) (mm_4 _ (List.mem_of_getElem? (i := 4) rfl)) (mm_4 _ (List.mem_of_getElem? (i := 5) rfl)) (mm_0 _ (List.mem_of_getElem? (i := 35) rfl)) (mm_3 _ (List.mem_of_getElem? (i := 34) rfl))) rfl rfl rfl ⟨rfl, by decide, by decide, by decide +kernel⟩ ⟨Nat.le_of_ble_eq_true rfl, Nat.le_of_ble_eq_true rfl⟩) rfl rfl (by decide) rfl hl.1 rfl (Nat.le_of_ble_eq_true rfl) dX14_hubOf_17 (Nat.le_of_ble_eq_true rfl) (Nat.add_le_add_right (Nat.le_of_ble_eq_true rfl) _) (by assumption) (fun H locs v σ17 N hBn hX17 hP => ?_)
    clear hB; have hB := hBn; clear hBn
    obtain ⟨rfl, rfl⟩ := hP
    have dv17 := (inv_dv h2 (k := (x : Int32).toInt.toNat) (by omega)).2.1
    refine va_castY hx hb hown (F.1.2.2.2.2 _ (List.mem_cons_of_mem _ (mm_4 _ (List.mem_of_getElem? (i := 2) rfl)))) (F.2.2.1.2.2 ("HubcascadeModel$Device", "HubcascadeModel$Device") (by decide +kernel)) (sg_recv (ci := 15) F.2.1 hB (by assumption) (by decide) rfl) dX14_hubOf_20 ?_
    refine gf_X14_80 F hB dX14_hubOf_23 (by assumption) ?_
    exact sg_iret F hB hrt dX14_hubOf_26 (by decide) (by decide) (⟨⟨_, rfl⟩, h2⟩)
  · refine lv_iconst (v := 0) hx hb dX14_hubOf_8 (by decide) ?_
    refine lv_goto (tgt := 26) hx hb dX14_hubOf_9 (by decide) ?_
    exact sg_iret F hB hrt dX14_hubOf_26 (by decide) (by decide) (⟨⟨_, rfl⟩, h2⟩)
theorem dX14_addressOf_0 : decode cX14_addressOf 0 = .ok (.aload_n 0, 1) := by decide +kernel
theorem dX14_addressOf_1 : decode cX14_addressOf 1 = .ok (.iload_n 1, 1) := by decide +kernel
theorem dX14_addressOf_2 : decode cX14_addressOf 2 = .ok (.invokevirtual 90, 3) := by decide +kernel
theorem dX14_addressOf_5 : decode cX14_addressOf 5 = .ok (.ifCond .eq 7, 3) := by decide +kernel
theorem dX14_addressOf_8 : decode cX14_addressOf 8 = .ok (.iconst 0, 1) := by decide +kernel
theorem dX14_addressOf_9 : decode cX14_addressOf 9 = .ok (.goto 17, 3) := by decide +kernel
theorem dX14_addressOf_12 : decode cX14_addressOf 12 = .ok (.aload_n 0, 1) := by decide +kernel
theorem dX14_addressOf_13 : decode cX14_addressOf 13 = .ok (.getfield 10, 3) := by decide +kernel
theorem dX14_addressOf_16 : decode cX14_addressOf 16 = .ok (.iload_n 1, 1) := by decide +kernel
theorem dX14_addressOf_17 : decode cX14_addressOf 17 = .ok (.invokevirtual 76, 3) := by decide +kernel
theorem dX14_addressOf_20 : decode cX14_addressOf 20 = .ok (.checkcast 48, 3) := by decide +kernel
theorem dX14_addressOf_23 : decode cX14_addressOf 23 = .ok (.getfield 140, 3) := by decide +kernel
theorem dX14_addressOf_26 : decode cX14_addressOf 26 = .ok (.ireturn, 1) := by decide +kernel
set_option maxRecDepth 100000 in
set_option maxHeartbeats 4000000 in
theorem m_addressOf (l : Launch) (D : va_G) (cy : Nat → ClassId) {eda ca : Nat} {ia : Nat → Nat} {σ : SG} {K : KM} {g : GH} {n S hw : Nat} (h : Inv eda ia K g n S hw σ) (x : Int32) (sz : Nat) : sgM l D cy eda ca ia σ sz yX14_addressOf (Cond.code yX14_addressOf cX14_addressOf 2 (some .int) :: mWall) 3 64 0 0 [.ref (kA K), .int x] (fun v σ2 => (∃ y : Int32, v = some (.int y)) ∧ Inv eda ia K g n S hw σ2) := by
  refine sg_ofW (cc := cX14_addressOf) (maxL := 2) (ret := (some .int)) (by decide) rfl (Nat.le_of_ble_eq_true rfl) (lv := [(0, .ref (kA K)), (1, .int x)]) rfl (fun p e s m below meth c ls H N hrt hnm F hB hl => ?_) sz
  have hx := F.1.1
  have hb := F.1.2.1
  have hown := F.1.2.2.2.1
  obtain ⟨m0, m1, m2, m3, m4, m5, m6, m7, ⟨d1, d2⟩, ⟨r1, r2⟩, ⟨y1, y2⟩, ⟨e1, e2⟩, ⟨g1, g2⟩, ⟨p1, p2⟩, ⟨h1, h2⟩, ⟨ev, n9, n10, n11⟩, n12⟩ := inv_Mr h
  refine lv_aload_n hx hb dX14_addressOf_0 rfl (lv_at hl 0 rfl) ?_
  refine lv_iload_n hx hb dX14_addressOf_1 rfl (lv_at hl 1 rfl) ?_
  refine sg_callV (ci := 19) F hB (m_noDevice l D cy h x _) (cwV 1 F.1.2.2.2.2 (mgV (mm_4 _ (List.mem_of_getElem? (i := 17) rfl)) (mm_4 _ (List.mem_of_getElem? (i := 18) rfl)) (mm_4 _ (List.mem_of_getElem? (i := 19) rfl)) (mm_3 _ (List.mem_of_getElem? (i := 23) rfl)) (mm_3 _ (List.mem_of_getElem? (i := 24) rfl))) rfl rfl rfl ⟨rfl, by decide, by decide, by decide +kernel⟩ ⟨Nat.le_of_ble_eq_true rfl, Nat.le_of_ble_eq_true rfl⟩) rfl rfl (by decide) rfl hl.1 rfl (Nat.le_of_ble_eq_true rfl) dX14_addressOf_2 (Nat.le_of_ble_eq_true rfl) (Nat.add_le_add_right (Nat.le_of_ble_eq_true rfl) _) (by assumption) (fun H locs v σ2 N hBn hX2 hP => ?_)
  clear hB; have hB := hBn; clear hBn
  obtain ⟨y, b, rfl, rfl, hb9⟩ := hP
  have h2 := inv_th h y
  refine lv_if_eq (tgt := 12) hx hb dX14_addressOf_5 (by decide) (fun c5 => ?_) (fun c5 => ?_)
  · have hx5 := Classical.not_not.mp (sgb_f hb9 c5)
    refine lv_aload_n hx hb dX14_addressOf_12 rfl (lv_at hl 0 rfl) ?_
    refine gr_X14_10 F hB dX14_addressOf_13 (by assumption) m1 ?_
    refine lv_iload_n hx hb dX14_addressOf_16 rfl (lv_at hl 1 rfl) ?_
    refine sg_callV (ci := 4) F hB (m_getD l D cy h2 x (by omega) (by omega) _) (cwV 1 F.1.2.2.2.2 (mgV (mm_4 _ (List.mem_of_getElem? (i := 3) rfl)) (mm_4 _ (List.mem_of_getElem? (i := 4) rfl)) (mm_4 _ (List.mem_of_getElem? (i := 5) rfl)) (mm_0 _ (List.mem_of_getElem? (i := 35) rfl)) (mm_3 _ (List.mem_of_getElem? (i := 34) rfl))) rfl rfl rfl ⟨rfl, by decide, by decide, by decide +kernel⟩ ⟨Nat.le_of_ble_eq_true rfl, Nat.le_of_ble_eq_true rfl⟩) rfl rfl (by decide) rfl hl.1 rfl (Nat.le_of_ble_eq_true rfl) dX14_addressOf_17 (Nat.le_of_ble_eq_true rfl) (Nat.add_le_add_right (Nat.le_of_ble_eq_true rfl) _) (by assumption) (fun H locs v σ17 N hBn hX17 hP => ?_)
    clear hB; have hB := hBn; clear hBn
    obtain ⟨rfl, rfl⟩ := hP
    have dv17 := (inv_dv h2 (k := (x : Int32).toInt.toNat) (by omega)).2.1
    refine va_castY hx hb hown (F.1.2.2.2.2 _ (List.mem_cons_of_mem _ (mm_4 _ (List.mem_of_getElem? (i := 2) rfl)))) (F.2.2.1.2.2 ("HubcascadeModel$Device", "HubcascadeModel$Device") (by decide +kernel)) (sg_recv (ci := 15) F.2.1 hB (by assumption) (by decide) rfl) dX14_addressOf_20 ?_
    refine gf_X14_140 F hB dX14_addressOf_23 (by assumption) ?_
    exact sg_iret F hB hrt dX14_addressOf_26 (by decide) (by decide) (⟨⟨_, rfl⟩, h2⟩)
  · refine lv_iconst (v := 0) hx hb dX14_addressOf_8 (by decide) ?_
    refine lv_goto (tgt := 26) hx hb dX14_addressOf_9 (by decide) ?_
    exact sg_iret F hB hrt dX14_addressOf_26 (by decide) (by decide) (⟨⟨_, rfl⟩, h2⟩)
theorem dX14_driverOf_0 : decode cX14_driverOf 0 = .ok (.aload_n 0, 1) := by decide +kernel
theorem dX14_driverOf_1 : decode cX14_driverOf 1 = .ok (.iload_n 1, 1) := by decide +kernel
theorem dX14_driverOf_2 : decode cX14_driverOf 2 = .ok (.invokevirtual 90, 3) := by decide +kernel
theorem dX14_driverOf_5 : decode cX14_driverOf 5 = .ok (.ifCond .eq 7, 3) := by decide +kernel
theorem dX14_driverOf_8 : decode cX14_driverOf 8 = .ok (.iconst 0, 1) := by decide +kernel
theorem dX14_driverOf_9 : decode cX14_driverOf 9 = .ok (.goto 17, 3) := by decide +kernel
theorem dX14_driverOf_12 : decode cX14_driverOf 12 = .ok (.aload_n 0, 1) := by decide +kernel
theorem dX14_driverOf_13 : decode cX14_driverOf 13 = .ok (.getfield 10, 3) := by decide +kernel
theorem dX14_driverOf_16 : decode cX14_driverOf 16 = .ok (.iload_n 1, 1) := by decide +kernel
theorem dX14_driverOf_17 : decode cX14_driverOf 17 = .ok (.invokevirtual 76, 3) := by decide +kernel
theorem dX14_driverOf_20 : decode cX14_driverOf 20 = .ok (.checkcast 48, 3) := by decide +kernel
theorem dX14_driverOf_23 : decode cX14_driverOf 23 = .ok (.getfield 143, 3) := by decide +kernel
theorem dX14_driverOf_26 : decode cX14_driverOf 26 = .ok (.ireturn, 1) := by decide +kernel
set_option maxRecDepth 100000 in
set_option maxHeartbeats 4000000 in
theorem m_driverOf (l : Launch) (D : va_G) (cy : Nat → ClassId) {eda ca : Nat} {ia : Nat → Nat} {σ : SG} {K : KM} {g : GH} {n S hw : Nat} (h : Inv eda ia K g n S hw σ) (x : Int32) (sz : Nat) : sgM l D cy eda ca ia σ sz yX14_driverOf (Cond.code yX14_driverOf cX14_driverOf 2 (some .int) :: mWall) 3 64 0 0 [.ref (kA K), .int x] (fun v σ2 => (∃ y : Int32, v = some (.int y)) ∧ Inv eda ia K g n S hw σ2) := by
  refine sg_ofW (cc := cX14_driverOf) (maxL := 2) (ret := (some .int)) (by decide) rfl (Nat.le_of_ble_eq_true rfl) (lv := [(0, .ref (kA K)), (1, .int x)]) rfl (fun p e s m below meth c ls H N hrt hnm F hB hl => ?_) sz
  have hx := F.1.1
  have hb := F.1.2.1
  have hown := F.1.2.2.2.1
  obtain ⟨m0, m1, m2, m3, m4, m5, m6, m7, ⟨d1, d2⟩, ⟨r1, r2⟩, ⟨y1, y2⟩, ⟨e1, e2⟩, ⟨g1, g2⟩, ⟨p1, p2⟩, ⟨h1, h2⟩, ⟨ev, n9, n10, n11⟩, n12⟩ := inv_Mr h
  refine lv_aload_n hx hb dX14_driverOf_0 rfl (lv_at hl 0 rfl) ?_
  refine lv_iload_n hx hb dX14_driverOf_1 rfl (lv_at hl 1 rfl) ?_
  refine sg_callV (ci := 19) F hB (m_noDevice l D cy h x _) (cwV 1 F.1.2.2.2.2 (mgV (mm_4 _ (List.mem_of_getElem? (i := 17) rfl)) (mm_4 _ (List.mem_of_getElem? (i := 18) rfl)) (mm_4 _ (List.mem_of_getElem? (i := 19) rfl)) (mm_3 _ (List.mem_of_getElem? (i := 23) rfl)) (mm_3 _ (List.mem_of_getElem? (i := 24) rfl))) rfl rfl rfl ⟨rfl, by decide, by decide, by decide +kernel⟩ ⟨Nat.le_of_ble_eq_true rfl, Nat.le_of_ble_eq_true rfl⟩) rfl rfl (by decide) rfl hl.1 rfl (Nat.le_of_ble_eq_true rfl) dX14_driverOf_2 (Nat.le_of_ble_eq_true rfl) (Nat.add_le_add_right (Nat.le_of_ble_eq_true rfl) _) (by assumption) (fun H locs v σ2 N hBn hX2 hP => ?_)
  clear hB; have hB := hBn; clear hBn
  obtain ⟨y, b, rfl, rfl, hb9⟩ := hP
  have h2 := inv_th h y
  refine lv_if_eq (tgt := 12) hx hb dX14_driverOf_5 (by decide) (fun c5 => ?_) (fun c5 => ?_)
  · have hx5 := Classical.not_not.mp (sgb_f hb9 c5)
    refine lv_aload_n hx hb dX14_driverOf_12 rfl (lv_at hl 0 rfl) ?_
    refine gr_X14_10 F hB dX14_driverOf_13 (by assumption) m1 ?_
    refine lv_iload_n hx hb dX14_driverOf_16 rfl (lv_at hl 1 rfl) ?_
    refine sg_callV (ci := 4) F hB (m_getD l D cy h2 x (by omega) (by omega) _) (cwV 1 F.1.2.2.2.2 (mgV (mm_4 _ (List.mem_of_getElem? (i := 3) rfl)) (mm_4 _ (List.mem_of_getElem? (i := 4) rfl)) (mm_4 _ (List.mem_of_getElem? (i := 5) rfl)) (mm_0 _ (List.mem_of_getElem? (i := 35) rfl)) (mm_3 _ (List.mem_of_getElem? (i := 34) rfl))) rfl rfl rfl ⟨rfl, by decide, by decide, by decide +kernel⟩ ⟨Nat.le_of_ble_eq_true rfl, Nat.le_of_ble_eq_true rfl⟩) rfl rfl (by decide) rfl hl.1 rfl (Nat.le_of_ble_eq_true rfl) dX14_driverOf_17 (Nat.le_of_ble_eq_true rfl) (Nat.add_le_add_right (Nat.le_of_ble_eq_true rfl) _) (by assumption) (fun H locs v σ17 N hBn hX17 hP => ?_)
    clear hB; have hB := hBn; clear hBn
    obtain ⟨rfl, rfl⟩ := hP
    have dv17 := (inv_dv h2 (k := (x : Int32).toInt.toNat) (by omega)).2.1
    refine va_castY hx hb hown (F.1.2.2.2.2 _ (List.mem_cons_of_mem _ (mm_4 _ (List.mem_of_getElem? (i := 2) rfl)))) (F.2.2.1.2.2 ("HubcascadeModel$Device", "HubcascadeModel$Device") (by decide +kernel)) (sg_recv (ci := 15) F.2.1 hB (by assumption) (by decide) rfl) dX14_driverOf_20 ?_
    refine gf_X14_143 F hB dX14_driverOf_23 (by assumption) ?_
    exact sg_iret F hB hrt dX14_driverOf_26 (by decide) (by decide) (⟨⟨_, rfl⟩, h2⟩)
  · refine lv_iconst (v := 0) hx hb dX14_driverOf_8 (by decide) ?_
    refine lv_goto (tgt := 26) hx hb dX14_driverOf_9 (by decide) ?_
    exact sg_iret F hB hrt dX14_driverOf_26 (by decide) (by decide) (⟨⟨_, rfl⟩, h2⟩)
theorem dX14_blame_0 : decode cX14_blame 0 = .ok (.aload_n 0, 1) := by decide +kernel
theorem dX14_blame_1 : decode cX14_blame 1 = .ok (.iload_n 1, 1) := by decide +kernel
theorem dX14_blame_2 : decode cX14_blame 2 = .ok (.invokevirtual 90, 3) := by decide +kernel
theorem dX14_blame_5 : decode cX14_blame 5 = .ok (.ifCond .eq 7, 3) := by decide +kernel
theorem dX14_blame_8 : decode cX14_blame 8 = .ok (.iconst 0, 1) := by decide +kernel
theorem dX14_blame_9 : decode cX14_blame 9 = .ok (.goto 17, 3) := by decide +kernel
theorem dX14_blame_12 : decode cX14_blame 12 = .ok (.aload_n 0, 1) := by decide +kernel
theorem dX14_blame_13 : decode cX14_blame 13 = .ok (.getfield 10, 3) := by decide +kernel
theorem dX14_blame_16 : decode cX14_blame 16 = .ok (.iload_n 1, 1) := by decide +kernel
theorem dX14_blame_17 : decode cX14_blame 17 = .ok (.invokevirtual 76, 3) := by decide +kernel
theorem dX14_blame_20 : decode cX14_blame 20 = .ok (.checkcast 48, 3) := by decide +kernel
theorem dX14_blame_23 : decode cX14_blame 23 = .ok (.getfield 180, 3) := by decide +kernel
theorem dX14_blame_26 : decode cX14_blame 26 = .ok (.ireturn, 1) := by decide +kernel
set_option maxRecDepth 100000 in
set_option maxHeartbeats 4000000 in
theorem m_blame (l : Launch) (D : va_G) (cy : Nat → ClassId) {eda ca : Nat} {ia : Nat → Nat} {σ : SG} {K : KM} {g : GH} {n S hw : Nat} (h : Inv eda ia K g n S hw σ) (x : Int32) (sz : Nat) : sgM l D cy eda ca ia σ sz yX14_blame (Cond.code yX14_blame cX14_blame 2 (some .int) :: mWall) 3 64 0 0 [.ref (kA K), .int x] (fun v σ2 => (∃ y : Int32, v = some (.int y)) ∧ Inv eda ia K g n S hw σ2) := by
  refine sg_ofW (cc := cX14_blame) (maxL := 2) (ret := (some .int)) (by decide) rfl (Nat.le_of_ble_eq_true rfl) (lv := [(0, .ref (kA K)), (1, .int x)]) rfl (fun p e s m below meth c ls H N hrt hnm F hB hl => ?_) sz
  have hx := F.1.1
  have hb := F.1.2.1
  have hown := F.1.2.2.2.1
  obtain ⟨m0, m1, m2, m3, m4, m5, m6, m7, ⟨d1, d2⟩, ⟨r1, r2⟩, ⟨y1, y2⟩, ⟨e1, e2⟩, ⟨g1, g2⟩, ⟨p1, p2⟩, ⟨h1, h2⟩, ⟨ev, n9, n10, n11⟩, n12⟩ := inv_Mr h
  refine lv_aload_n hx hb dX14_blame_0 rfl (lv_at hl 0 rfl) ?_
  refine lv_iload_n hx hb dX14_blame_1 rfl (lv_at hl 1 rfl) ?_
  refine sg_callV (ci := 19) F hB (m_noDevice l D cy h x _) (cwV 1 F.1.2.2.2.2 (mgV (mm_4 _ (List.mem_of_getElem? (i := 17) rfl)) (mm_4 _ (List.mem_of_getElem? (i := 18) rfl)) (mm_4 _ (List.mem_of_getElem? (i := 19) rfl)) (mm_3 _ (List.mem_of_getElem? (i := 23) rfl)) (mm_3 _ (List.mem_of_getElem? (i := 24) rfl))) rfl rfl rfl ⟨rfl, by decide, by decide, by decide +kernel⟩ ⟨Nat.le_of_ble_eq_true rfl, Nat.le_of_ble_eq_true rfl⟩) rfl rfl (by decide) rfl hl.1 rfl (Nat.le_of_ble_eq_true rfl) dX14_blame_2 (Nat.le_of_ble_eq_true rfl) (Nat.add_le_add_right (Nat.le_of_ble_eq_true rfl) _) (by assumption) (fun H locs v σ2 N hBn hX2 hP => ?_)
  clear hB; have hB := hBn; clear hBn
  obtain ⟨y, b, rfl, rfl, hb9⟩ := hP
  have h2 := inv_th h y
  refine lv_if_eq (tgt := 12) hx hb dX14_blame_5 (by decide) (fun c5 => ?_) (fun c5 => ?_)
  · have hx5 := Classical.not_not.mp (sgb_f hb9 c5)
    refine lv_aload_n hx hb dX14_blame_12 rfl (lv_at hl 0 rfl) ?_
    refine gr_X14_10 F hB dX14_blame_13 (by assumption) m1 ?_
    refine lv_iload_n hx hb dX14_blame_16 rfl (lv_at hl 1 rfl) ?_
    refine sg_callV (ci := 4) F hB (m_getD l D cy h2 x (by omega) (by omega) _) (cwV 1 F.1.2.2.2.2 (mgV (mm_4 _ (List.mem_of_getElem? (i := 3) rfl)) (mm_4 _ (List.mem_of_getElem? (i := 4) rfl)) (mm_4 _ (List.mem_of_getElem? (i := 5) rfl)) (mm_0 _ (List.mem_of_getElem? (i := 35) rfl)) (mm_3 _ (List.mem_of_getElem? (i := 34) rfl))) rfl rfl rfl ⟨rfl, by decide, by decide, by decide +kernel⟩ ⟨Nat.le_of_ble_eq_true rfl, Nat.le_of_ble_eq_true rfl⟩) rfl rfl (by decide) rfl hl.1 rfl (Nat.le_of_ble_eq_true rfl) dX14_blame_17 (Nat.le_of_ble_eq_true rfl) (Nat.add_le_add_right (Nat.le_of_ble_eq_true rfl) _) (by assumption) (fun H locs v σ17 N hBn hX17 hP => ?_)
    clear hB; have hB := hBn; clear hBn
    obtain ⟨rfl, rfl⟩ := hP
    have dv17 := (inv_dv h2 (k := (x : Int32).toInt.toNat) (by omega)).2.1
    refine va_castY hx hb hown (F.1.2.2.2.2 _ (List.mem_cons_of_mem _ (mm_4 _ (List.mem_of_getElem? (i := 2) rfl)))) (F.2.2.1.2.2 ("HubcascadeModel$Device", "HubcascadeModel$Device") (by decide +kernel)) (sg_recv (ci := 15) F.2.1 hB (by assumption) (by decide) rfl) dX14_blame_20 ?_
    refine gf_X14_180 F hB dX14_blame_23 (by assumption) ?_
    exact sg_iret F hB hrt dX14_blame_26 (by decide) (by decide) (⟨⟨_, rfl⟩, h2⟩)
  · refine lv_iconst (v := 0) hx hb dX14_blame_8 (by decide) ?_
    refine lv_goto (tgt := 26) hx hb dX14_blame_9 (by decide) ?_
    exact sg_iret F hB hrt dX14_blame_26 (by decide) (by decide) (⟨⟨_, rfl⟩, h2⟩)
theorem dX14_frames_0 : decode cX14_frames 0 = .ok (.aload_n 0, 1) := by decide +kernel
theorem dX14_frames_1 : decode cX14_frames 1 = .ok (.iconst 0, 1) := by decide +kernel
theorem dX14_frames_2 : decode cX14_frames 2 = .ok (.putfield 61, 3) := by decide +kernel
theorem dX14_frames_5 : decode cX14_frames 5 = .ok (.aload_n 0, 1) := by decide +kernel
theorem dX14_frames_6 : decode cX14_frames 6 = .ok (.getfield 205, 3) := by decide +kernel
theorem dX14_frames_9 : decode cX14_frames 9 = .ok (.ireturn, 1) := by decide +kernel
set_option maxRecDepth 100000 in
set_option maxHeartbeats 4000000 in
theorem m_frames (l : Launch) (D : va_G) (cy : Nat → ClassId) {eda ca : Nat} {ia : Nat → Nat} {σ : SG} {K : KM} {g : GH} {n S hw : Nat} (h : Inv eda ia K g n S hw σ) (sz : Nat) : sgM l D cy eda ca ia σ sz yX14_frames (Cond.code yX14_frames cX14_frames 1 (some .int) :: mWall) 0 0 0 0 [.ref (kA K)] (fun v σ2 => v = some (.int (sgI σ (kA K) 9)) ∧ Inv eda ia K g n S hw σ2) := by
  refine sg_ofW (cc := cX14_frames) (maxL := 1) (ret := (some .int)) (by decide) rfl (Nat.le_of_ble_eq_true rfl) (lv := [(0, .ref (kA K))]) rfl (fun p e s m below meth c ls H N hrt hnm F hB hl => ?_) sz
  have hx := F.1.1
  have hb := F.1.2.1
  have hown := F.1.2.2.2.1
  obtain ⟨m0, m1, m2, m3, m4, m5, m6, m7, ⟨d1, d2⟩, ⟨r1, r2⟩, ⟨y1, y2⟩, ⟨e1, e2⟩, ⟨g1, g2⟩, ⟨p1, p2⟩, ⟨h1, h2⟩, ⟨ev, n9, n10, n11⟩, n12⟩ := inv_Mr h
  refine lv_aload_n hx hb dX14_frames_0 rfl (lv_at hl 0 rfl) ?_
  refine lv_iconst (v := 0) hx hb dX14_frames_1 (by decide) ?_
  refine pf_X14_61 F hB dX14_frames_2 (by assumption) (fun H locs hBn => ?_)
  clear hB; have hB := hBn; clear hBn
  refine lv_aload_n hx hb dX14_frames_5 rfl (lv_at hl 0 rfl) ?_
  refine gf_X14_205 F hB dX14_frames_6 (by assumption) ?_
  exact sg_iret F hB hrt dX14_frames_9 (by decide) (by decide) (⟨by rw [sgI_PI, if_neg (fun z => absurd z.2 (by decide))], inv_th h 0⟩)
theorem dX14_missed_0 : decode cX14_missed 0 = .ok (.aload_n 0, 1) := by decide +kernel
theorem dX14_missed_1 : decode cX14_missed 1 = .ok (.iconst 0, 1) := by decide +kernel
theorem dX14_missed_2 : decode cX14_missed 2 = .ok (.putfield 61, 3) := by decide +kernel
theorem dX14_missed_5 : decode cX14_missed 5 = .ok (.aload_n 0, 1) := by decide +kernel
theorem dX14_missed_6 : decode cX14_missed 6 = .ok (.getfield 287, 3) := by decide +kernel
theorem dX14_missed_9 : decode cX14_missed 9 = .ok (.ireturn, 1) := by decide +kernel
set_option maxRecDepth 100000 in
set_option maxHeartbeats 4000000 in
theorem m_missed (l : Launch) (D : va_G) (cy : Nat → ClassId) {eda ca : Nat} {ia : Nat → Nat} {σ : SG} {K : KM} {g : GH} {n S hw : Nat} (h : Inv eda ia K g n S hw σ) (sz : Nat) : sgM l D cy eda ca ia σ sz yX14_missed (Cond.code yX14_missed cX14_missed 1 (some .int) :: mWall) 0 0 0 0 [.ref (kA K)] (fun v σ2 => (∃ y : Int32, v = some (.int y)) ∧ Inv eda ia K g n S hw σ2) := by
  refine sg_ofW (cc := cX14_missed) (maxL := 1) (ret := (some .int)) (by decide) rfl (Nat.le_of_ble_eq_true rfl) (lv := [(0, .ref (kA K))]) rfl (fun p e s m below meth c ls H N hrt hnm F hB hl => ?_) sz
  have hx := F.1.1
  have hb := F.1.2.1
  have hown := F.1.2.2.2.1
  obtain ⟨m0, m1, m2, m3, m4, m5, m6, m7, ⟨d1, d2⟩, ⟨r1, r2⟩, ⟨y1, y2⟩, ⟨e1, e2⟩, ⟨g1, g2⟩, ⟨p1, p2⟩, ⟨h1, h2⟩, ⟨ev, n9, n10, n11⟩, n12⟩ := inv_Mr h
  refine lv_aload_n hx hb dX14_missed_0 rfl (lv_at hl 0 rfl) ?_
  refine lv_iconst (v := 0) hx hb dX14_missed_1 (by decide) ?_
  refine pf_X14_61 F hB dX14_missed_2 (by assumption) (fun H locs hBn => ?_)
  clear hB; have hB := hBn; clear hBn
  refine lv_aload_n hx hb dX14_missed_5 rfl (lv_at hl 0 rfl) ?_
  refine gf_X14_287 F hB dX14_missed_6 (by assumption) ?_
  exact sg_iret F hB hrt dX14_missed_9 (by decide) (by decide) (⟨⟨_, rfl⟩, inv_th h 0⟩)
theorem dX14_got_0 : decode cX14_got 0 = .ok (.aload_n 0, 1) := by decide +kernel
theorem dX14_got_1 : decode cX14_got 1 = .ok (.iconst 0, 1) := by decide +kernel
theorem dX14_got_2 : decode cX14_got 2 = .ok (.putfield 61, 3) := by decide +kernel
theorem dX14_got_5 : decode cX14_got 5 = .ok (.aload_n 0, 1) := by decide +kernel
theorem dX14_got_6 : decode cX14_got 6 = .ok (.getfield 35, 3) := by decide +kernel
theorem dX14_got_9 : decode cX14_got 9 = .ok (.invokevirtual 64, 3) := by decide +kernel
theorem dX14_got_12 : decode cX14_got 12 = .ok (.ireturn, 1) := by decide +kernel
set_option maxRecDepth 100000 in
set_option maxHeartbeats 4000000 in
theorem m_got (l : Launch) (D : va_G) (cy : Nat → ClassId) {eda ca : Nat} {ia : Nat → Nat} {σ : SG} {K : KM} {g : GH} {n S hw : Nat} (h : Inv eda ia K g n S hw σ) (sz : Nat) : sgM l D cy eda ca ia σ sz yX14_got (Cond.code yX14_got cX14_got 1 (some .int) :: mWall) 1 20 0 0 [.ref (kA K)] (fun v σ2 => (∃ y : Int32, v = some (.int y)) ∧ Inv eda ia K g n S hw σ2) := by
  refine sg_ofW (cc := cX14_got) (maxL := 1) (ret := (some .int)) (by decide) rfl (Nat.le_of_ble_eq_true rfl) (lv := [(0, .ref (kA K))]) rfl (fun p e s m below meth c ls H N hrt hnm F hB hl => ?_) sz
  have hx := F.1.1
  have hb := F.1.2.1
  have hown := F.1.2.2.2.1
  obtain ⟨m0, m1, m2, m3, m4, m5, m6, m7, ⟨d1, d2⟩, ⟨r1, r2⟩, ⟨y1, y2⟩, ⟨e1, e2⟩, ⟨g1, g2⟩, ⟨p1, p2⟩, ⟨h1, h2⟩, ⟨ev, n9, n10, n11⟩, n12⟩ := inv_Mr h
  refine lv_aload_n hx hb dX14_got_0 rfl (lv_at hl 0 rfl) ?_
  refine lv_iconst (v := 0) hx hb dX14_got_1 (by decide) ?_
  refine pf_X14_61 F hB dX14_got_2 (by assumption) (fun H locs hBn => ?_)
  clear hB; have hB := hBn; clear hBn
  refine lv_aload_n hx hb dX14_got_5 rfl (lv_at hl 0 rfl) ?_
  refine gr_X14_35 F hB dX14_got_6 (by assumption) m6 ?_
  refine sg_callV (ci := 4) F hB (m_size l D cy (by exact g1) _) (cwV 0 F.1.2.2.2.2 (mgV (mm_3 _ (List.mem_of_getElem? (i := 18) rfl)) (mm_3 _ (List.mem_of_getElem? (i := 19) rfl)) (mm_3 _ (List.mem_of_getElem? (i := 20) rfl)) (mm_0 _ (List.mem_of_getElem? (i := 35) rfl)) (mm_3 _ (List.mem_of_getElem? (i := 16) rfl))) rfl rfl rfl ⟨rfl, by decide, by decide, by decide +kernel⟩ ⟨Nat.le_of_ble_eq_true rfl, Nat.le_of_ble_eq_true rfl⟩) rfl rfl (by decide) rfl hl.1 rfl (Nat.le_of_ble_eq_true rfl) dX14_got_9 (Nat.le_of_ble_eq_true rfl) (Nat.add_le_add_right (Nat.le_of_ble_eq_true rfl) _) (by assumption) (fun H locs v σ9 N hBn hX9 hP => ?_)
  clear hB; have hB := hBn; clear hBn
  obtain ⟨rfl, rfl⟩ := hP
  exact sg_iret F hB hrt dX14_got_12 (by decide) (by decide) (⟨⟨_, rfl⟩, inv_th h 0⟩)
theorem dX14_events_0 : decode cX14_events 0 = .ok (.aload_n 0, 1) := by decide +kernel
theorem dX14_events_1 : decode cX14_events 1 = .ok (.iconst 0, 1) := by decide +kernel
theorem dX14_events_2 : decode cX14_events 2 = .ok (.putfield 61, 3) := by decide +kernel
theorem dX14_events_5 : decode cX14_events 5 = .ok (.aload_n 0, 1) := by decide +kernel
theorem dX14_events_6 : decode cX14_events 6 = .ok (.getfield 28, 3) := by decide +kernel
theorem dX14_events_9 : decode cX14_events 9 = .ok (.invokevirtual 64, 3) := by decide +kernel
theorem dX14_events_12 : decode cX14_events 12 = .ok (.ireturn, 1) := by decide +kernel
set_option maxRecDepth 100000 in
set_option maxHeartbeats 4000000 in
theorem m_events (l : Launch) (D : va_G) (cy : Nat → ClassId) {eda ca : Nat} {ia : Nat → Nat} {σ : SG} {K : KM} {g : GH} {n S hw : Nat} (h : Inv eda ia K g n S hw σ) (sz : Nat) : sgM l D cy eda ca ia σ sz yX14_events (Cond.code yX14_events cX14_events 1 (some .int) :: mWall) 1 20 0 0 [.ref (kA K)] (fun v σ2 => (∃ y : Int32, v = some (.int y)) ∧ Inv eda ia K g n S hw σ2) := by
  refine sg_ofW (cc := cX14_events) (maxL := 1) (ret := (some .int)) (by decide) rfl (Nat.le_of_ble_eq_true rfl) (lv := [(0, .ref (kA K))]) rfl (fun p e s m below meth c ls H N hrt hnm F hB hl => ?_) sz
  have hx := F.1.1
  have hb := F.1.2.1
  have hown := F.1.2.2.2.1
  obtain ⟨m0, m1, m2, m3, m4, m5, m6, m7, ⟨d1, d2⟩, ⟨r1, r2⟩, ⟨y1, y2⟩, ⟨e1, e2⟩, ⟨g1, g2⟩, ⟨p1, p2⟩, ⟨h1, h2⟩, ⟨ev, n9, n10, n11⟩, n12⟩ := inv_Mr h
  refine lv_aload_n hx hb dX14_events_0 rfl (lv_at hl 0 rfl) ?_
  refine lv_iconst (v := 0) hx hb dX14_events_1 (by decide) ?_
  refine pf_X14_61 F hB dX14_events_2 (by assumption) (fun H locs hBn => ?_)
  clear hB; have hB := hBn; clear hBn
  refine lv_aload_n hx hb dX14_events_5 rfl (lv_at hl 0 rfl) ?_
  refine gr_X14_28 F hB dX14_events_6 (by assumption) m5 ?_
  refine sg_callV (ci := 4) F hB (m_size l D cy (by exact e1) _) (cwV 0 F.1.2.2.2.2 (mgV (mm_3 _ (List.mem_of_getElem? (i := 18) rfl)) (mm_3 _ (List.mem_of_getElem? (i := 19) rfl)) (mm_3 _ (List.mem_of_getElem? (i := 20) rfl)) (mm_0 _ (List.mem_of_getElem? (i := 35) rfl)) (mm_3 _ (List.mem_of_getElem? (i := 16) rfl))) rfl rfl rfl ⟨rfl, by decide, by decide, by decide +kernel⟩ ⟨Nat.le_of_ble_eq_true rfl, Nat.le_of_ble_eq_true rfl⟩) rfl rfl (by decide) rfl hl.1 rfl (Nat.le_of_ble_eq_true rfl) dX14_events_9 (Nat.le_of_ble_eq_true rfl) (Nat.add_le_add_right (Nat.le_of_ble_eq_true rfl) _) (by assumption) (fun H locs v σ9 N hBn hX9 hP => ?_)
  clear hB; have hB := hBn; clear hBn
  obtain ⟨rfl, rfl⟩ := hP
  exact sg_iret F hB hrt dX14_events_12 (by decide) (by decide) (⟨⟨_, rfl⟩, inv_th h 0⟩)
theorem dX14_packets_0 : decode cX14_packets 0 = .ok (.aload_n 0, 1) := by decide +kernel
theorem dX14_packets_1 : decode cX14_packets 1 = .ok (.iload_n 1, 1) := by decide +kernel
theorem dX14_packets_2 : decode cX14_packets 2 = .ok (.bipush 116, 2) := by decide +kernel
theorem dX14_packets_4 : decode cX14_packets 4 = .ok (.if_icmp .eq 15, 3) := by decide +kernel
theorem dX14_packets_7 : decode cX14_packets 7 = .ok (.iload_n 1, 1) := by decide +kernel
theorem dX14_packets_8 : decode cX14_packets 8 = .ok (.bipush 100, 2) := by decide +kernel
theorem dX14_packets_10 : decode cX14_packets 10 = .ok (.if_icmp .eq 9, 3) := by decide +kernel
theorem dX14_packets_13 : decode cX14_packets 13 = .ok (.iload_n 1, 1) := by decide +kernel
theorem dX14_packets_14 : decode cX14_packets 14 = .ok (.bipush 104, 2) := by decide +kernel
theorem dX14_packets_16 : decode cX14_packets 16 = .ok (.if_icmp .ne 7, 3) := by decide +kernel
theorem dX14_packets_19 : decode cX14_packets 19 = .ok (.iconst 0, 1) := by decide +kernel
theorem dX14_packets_20 : decode cX14_packets 20 = .ok (.goto 4, 3) := by decide +kernel
theorem dX14_packets_23 : decode cX14_packets 23 = .ok (.iconst 1, 1) := by decide +kernel
theorem dX14_packets_24 : decode cX14_packets 24 = .ok (.putfield 61, 3) := by decide +kernel
theorem dX14_packets_27 : decode cX14_packets 27 = .ok (.aload_n 0, 1) := by decide +kernel
theorem dX14_packets_28 : decode cX14_packets 28 = .ok (.getfield 61, 3) := by decide +kernel
theorem dX14_packets_31 : decode cX14_packets 31 = .ok (.ifCond .le 7, 3) := by decide +kernel
theorem dX14_packets_34 : decode cX14_packets 34 = .ok (.iconst 0, 1) := by decide +kernel
theorem dX14_packets_35 : decode cX14_packets 35 = .ok (.goto 33, 3) := by decide +kernel
theorem dX14_packets_38 : decode cX14_packets 38 = .ok (.iload_n 1, 1) := by decide +kernel
theorem dX14_packets_39 : decode cX14_packets 39 = .ok (.bipush 116, 2) := by decide +kernel
theorem dX14_packets_41 : decode cX14_packets 41 = .ok (.if_icmp .ne 10, 3) := by decide +kernel
theorem dX14_packets_44 : decode cX14_packets 44 = .ok (.aload_n 0, 1) := by decide +kernel
theorem dX14_packets_45 : decode cX14_packets 45 = .ok (.getfield 163, 3) := by decide +kernel
theorem dX14_packets_48 : decode cX14_packets 48 = .ok (.goto 20, 3) := by decide +kernel
theorem dX14_packets_51 : decode cX14_packets 51 = .ok (.iload_n 1, 1) := by decide +kernel
theorem dX14_packets_52 : decode cX14_packets 52 = .ok (.bipush 100, 2) := by decide +kernel
theorem dX14_packets_54 : decode cX14_packets 54 = .ok (.if_icmp .ne 10, 3) := by decide +kernel
theorem dX14_packets_57 : decode cX14_packets 57 = .ok (.aload_n 0, 1) := by decide +kernel
theorem dX14_packets_58 : decode cX14_packets 58 = .ok (.getfield 366, 3) := by decide +kernel
theorem dX14_packets_61 : decode cX14_packets 61 = .ok (.goto 7, 3) := by decide +kernel
theorem dX14_packets_64 : decode cX14_packets 64 = .ok (.aload_n 0, 1) := by decide +kernel
theorem dX14_packets_65 : decode cX14_packets 65 = .ok (.getfield 381, 3) := by decide +kernel
theorem dX14_packets_68 : decode cX14_packets 68 = .ok (.ireturn, 1) := by decide +kernel
set_option maxRecDepth 100000 in
set_option maxHeartbeats 4000000 in
theorem m_packets (l : Launch) (D : va_G) (cy : Nat → ClassId) {eda ca : Nat} {ia : Nat → Nat} {σ : SG} {K : KM} {g : GH} {n S hw : Nat} (h : Inv eda ia K g n S hw σ) (x : Int32) (sz : Nat) : sgM l D cy eda ca ia σ sz yX14_packets (Cond.code yX14_packets cX14_packets 2 (some .int) :: mWall) 0 0 0 0 [.ref (kA K), .int x] (fun v σ2 => (∃ y : Int32, v = some (.int y)) ∧ Inv eda ia K g n S hw σ2) := by
  refine sg_ofW (cc := cX14_packets) (maxL := 2) (ret := (some .int)) (by decide) rfl (Nat.le_of_ble_eq_true rfl) (lv := [(0, .ref (kA K)), (1, .int x)]) rfl (fun p e s m below meth c ls H N hrt hnm F hB hl => ?_) sz
  have hx := F.1.1
  have hb := F.1.2.1
  have hown := F.1.2.2.2.1
  obtain ⟨m0, m1, m2, m3, m4, m5, m6, m7, ⟨d1, d2⟩, ⟨r1, r2⟩, ⟨y1, y2⟩, ⟨e1, e2⟩, ⟨g1, g2⟩, ⟨p1, p2⟩, ⟨h1, h2⟩, ⟨ev, n9, n10, n11⟩, n12⟩ := inv_Mr h
  refine lv_aload_n hx hb dX14_packets_0 rfl (lv_at hl 0 rfl) ?_
  refine lv_iload_n hx hb dX14_packets_1 rfl (lv_at hl 1 rfl) ?_
  refine lv_bipush (v := 116) hx hb dX14_packets_2 (by decide) ?_
  refine lv_icmp_eq (tgt := 19) hx hb dX14_packets_4 (by decide) (fun c4 => ?_) (fun c4 => ?_)
  · refine lv_iconst (v := 0) hx hb dX14_packets_19 (by decide) ?_
    refine lv_goto (tgt := 24) hx hb dX14_packets_20 (by decide) ?_
    refine pf_X14_61 F hB dX14_packets_24 (by assumption) (fun H locs hBn => ?_)
    clear hB; have hB := hBn; clear hBn
    refine lv_aload_n hx hb dX14_packets_27 rfl (lv_at hl 0 rfl) ?_
    refine gf_X14_61 F hB dX14_packets_28 (by assumption) ?_
    rw [sgI_PI, if_pos ⟨rfl, rfl⟩]
    refine lv_if_le (tgt := 38) hx hb dX14_packets_31 (by decide) (fun c31 => ?_) (fun c31 => (by first | exact absurd c31 (by decide) | exact (c31 (by decide)).elim))
    refine lv_iload_n hx hb dX14_packets_38 rfl (lv_at hl 1 rfl) ?_
    refine lv_bipush (v := 116) hx hb dX14_packets_39 (by decide) ?_
    refine lv_icmp_ne (tgt := 51) hx hb dX14_packets_41 (by decide) (fun c41 => ?_) (fun c41 => ?_)
    · refine lv_iload_n hx hb dX14_packets_51 rfl (lv_at hl 1 rfl) ?_
      refine lv_bipush (v := 100) hx hb dX14_packets_52 (by decide) ?_
      refine lv_icmp_ne (tgt := 64) hx hb dX14_packets_54 (by decide) (fun c54 => ?_) (fun c54 => ?_)
      · refine lv_aload_n hx hb dX14_packets_64 rfl (lv_at hl 0 rfl) ?_
        refine gf_X14_381 F hB dX14_packets_65 (by assumption) ?_
        exact sg_iret F hB hrt dX14_packets_68 (by decide) (by decide) (⟨⟨_, rfl⟩, inv_th h _⟩)
      · refine lv_aload_n hx hb dX14_packets_57 rfl (lv_at hl 0 rfl) ?_
        refine gf_X14_366 F hB dX14_packets_58 (by assumption) ?_
        refine lv_goto (tgt := 68) hx hb dX14_packets_61 (by decide) ?_
        exact sg_iret F hB hrt dX14_packets_68 (by decide) (by decide) (⟨⟨_, rfl⟩, inv_th h _⟩)
    · refine lv_aload_n hx hb dX14_packets_44 rfl (lv_at hl 0 rfl) ?_
      refine gf_X14_163 F hB dX14_packets_45 (by assumption) ?_
      refine lv_goto (tgt := 68) hx hb dX14_packets_48 (by decide) ?_
      exact sg_iret F hB hrt dX14_packets_68 (by decide) (by decide) (⟨⟨_, rfl⟩, inv_th h _⟩)
  · refine lv_iload_n hx hb dX14_packets_7 rfl (lv_at hl 1 rfl) ?_
    refine lv_bipush (v := 100) hx hb dX14_packets_8 (by decide) ?_
    refine lv_icmp_eq (tgt := 19) hx hb dX14_packets_10 (by decide) (fun c10 => ?_) (fun c10 => ?_)
    · refine lv_iconst (v := 0) hx hb dX14_packets_19 (by decide) ?_
      refine lv_goto (tgt := 24) hx hb dX14_packets_20 (by decide) ?_
      refine pf_X14_61 F hB dX14_packets_24 (by assumption) (fun H locs hBn => ?_)
      clear hB; have hB := hBn; clear hBn
      refine lv_aload_n hx hb dX14_packets_27 rfl (lv_at hl 0 rfl) ?_
      refine gf_X14_61 F hB dX14_packets_28 (by assumption) ?_
      rw [sgI_PI, if_pos ⟨rfl, rfl⟩]
      refine lv_if_le (tgt := 38) hx hb dX14_packets_31 (by decide) (fun c31 => ?_) (fun c31 => (by first | exact absurd c31 (by decide) | exact (c31 (by decide)).elim))
      refine lv_iload_n hx hb dX14_packets_38 rfl (lv_at hl 1 rfl) ?_
      refine lv_bipush (v := 116) hx hb dX14_packets_39 (by decide) ?_
      refine lv_icmp_ne (tgt := 51) hx hb dX14_packets_41 (by decide) (fun c41 => ?_) (fun c41 => ?_)
      · refine lv_iload_n hx hb dX14_packets_51 rfl (lv_at hl 1 rfl) ?_
        refine lv_bipush (v := 100) hx hb dX14_packets_52 (by decide) ?_
        refine lv_icmp_ne (tgt := 64) hx hb dX14_packets_54 (by decide) (fun c54 => ?_) (fun c54 => ?_)
        · refine lv_aload_n hx hb dX14_packets_64 rfl (lv_at hl 0 rfl) ?_
          refine gf_X14_381 F hB dX14_packets_65 (by assumption) ?_
          exact sg_iret F hB hrt dX14_packets_68 (by decide) (by decide) (⟨⟨_, rfl⟩, inv_th h _⟩)
        · refine lv_aload_n hx hb dX14_packets_57 rfl (lv_at hl 0 rfl) ?_
          refine gf_X14_366 F hB dX14_packets_58 (by assumption) ?_
          refine lv_goto (tgt := 68) hx hb dX14_packets_61 (by decide) ?_
          exact sg_iret F hB hrt dX14_packets_68 (by decide) (by decide) (⟨⟨_, rfl⟩, inv_th h _⟩)
      · refine lv_aload_n hx hb dX14_packets_44 rfl (lv_at hl 0 rfl) ?_
        refine gf_X14_163 F hB dX14_packets_45 (by assumption) ?_
        refine lv_goto (tgt := 68) hx hb dX14_packets_48 (by decide) ?_
        exact sg_iret F hB hrt dX14_packets_68 (by decide) (by decide) (⟨⟨_, rfl⟩, inv_th h _⟩)
    · refine lv_iload_n hx hb dX14_packets_13 rfl (lv_at hl 1 rfl) ?_
      refine lv_bipush (v := 104) hx hb dX14_packets_14 (by decide) ?_
      refine lv_icmp_ne (tgt := 23) hx hb dX14_packets_16 (by decide) (fun c16 => ?_) (fun c16 => ?_)
      · refine lv_iconst (v := 1) hx hb dX14_packets_23 (by decide) ?_
        refine pf_X14_61 F hB dX14_packets_24 (by assumption) (fun H locs hBn => ?_)
        clear hB; have hB := hBn; clear hBn
        refine lv_aload_n hx hb dX14_packets_27 rfl (lv_at hl 0 rfl) ?_
        refine gf_X14_61 F hB dX14_packets_28 (by assumption) ?_
        rw [sgI_PI, if_pos ⟨rfl, rfl⟩]
        refine lv_if_le (tgt := 38) hx hb dX14_packets_31 (by decide) (fun c31 => (by first | exact absurd c31 (by decide) | exact (c31 (by decide)).elim)) (fun c31 => ?_)
        refine lv_iconst (v := 0) hx hb dX14_packets_34 (by decide) ?_
        refine lv_goto (tgt := 68) hx hb dX14_packets_35 (by decide) ?_
        exact sg_iret F hB hrt dX14_packets_68 (by decide) (by decide) (⟨⟨_, rfl⟩, inv_th h _⟩)
      · refine lv_iconst (v := 0) hx hb dX14_packets_19 (by decide) ?_
        refine lv_goto (tgt := 24) hx hb dX14_packets_20 (by decide) ?_
        refine pf_X14_61 F hB dX14_packets_24 (by assumption) (fun H locs hBn => ?_)
        clear hB; have hB := hBn; clear hBn
        refine lv_aload_n hx hb dX14_packets_27 rfl (lv_at hl 0 rfl) ?_
        refine gf_X14_61 F hB dX14_packets_28 (by assumption) ?_
        rw [sgI_PI, if_pos ⟨rfl, rfl⟩]
        refine lv_if_le (tgt := 38) hx hb dX14_packets_31 (by decide) (fun c31 => ?_) (fun c31 => (by first | exact absurd c31 (by decide) | exact (c31 (by decide)).elim))
        refine lv_iload_n hx hb dX14_packets_38 rfl (lv_at hl 1 rfl) ?_
        refine lv_bipush (v := 116) hx hb dX14_packets_39 (by decide) ?_
        refine lv_icmp_ne (tgt := 51) hx hb dX14_packets_41 (by decide) (fun c41 => ?_) (fun c41 => ?_)
        · refine lv_iload_n hx hb dX14_packets_51 rfl (lv_at hl 1 rfl) ?_
          refine lv_bipush (v := 100) hx hb dX14_packets_52 (by decide) ?_
          refine lv_icmp_ne (tgt := 64) hx hb dX14_packets_54 (by decide) (fun c54 => ?_) (fun c54 => ?_)
          · refine lv_aload_n hx hb dX14_packets_64 rfl (lv_at hl 0 rfl) ?_
            refine gf_X14_381 F hB dX14_packets_65 (by assumption) ?_
            exact sg_iret F hB hrt dX14_packets_68 (by decide) (by decide) (⟨⟨_, rfl⟩, inv_th h _⟩)
          · refine lv_aload_n hx hb dX14_packets_57 rfl (lv_at hl 0 rfl) ?_
            refine gf_X14_366 F hB dX14_packets_58 (by assumption) ?_
            refine lv_goto (tgt := 68) hx hb dX14_packets_61 (by decide) ?_
            exact sg_iret F hB hrt dX14_packets_68 (by decide) (by decide) (⟨⟨_, rfl⟩, inv_th h _⟩)
        · refine lv_aload_n hx hb dX14_packets_44 rfl (lv_at hl 0 rfl) ?_
          refine gf_X14_163 F hB dX14_packets_45 (by assumption) ?_
          refine lv_goto (tgt := 68) hx hb dX14_packets_48 (by decide) ?_
          exact sg_iret F hB hrt dX14_packets_68 (by decide) (by decide) (⟨⟨_, rfl⟩, inv_th h _⟩)
end MM14
