section MM3
theorem m_pn {σ : SG} {a k b j y : Nat} (h : sgR (sgPR σ a k none) b j = some y) : sgR σ b j = some y := by
  rw [sgR_PR] at h
  by_cases q : b = a ∧ j = k
  · rw [if_pos q] at h; cases h
  · rw [if_neg q] at h; exact h
theorem dJ6_valueOf_2dffe_0 : decode cJ6_valueOf_2dffe 0 = .ok (.iload_n 0, 1) := by decide +kernel
theorem dJ6_valueOf_2dffe_1 : decode cJ6_valueOf_2dffe 1 = .ok (.bipush (-128), 2) := by decide +kernel
theorem dJ6_valueOf_2dffe_3 : decode cJ6_valueOf_2dffe 3 = .ok (.if_icmp .lt 20, 3) := by decide +kernel
theorem dJ6_valueOf_2dffe_6 : decode cJ6_valueOf_2dffe 6 = .ok (.iload_n 0, 1) := by decide +kernel
theorem dJ6_valueOf_2dffe_7 : decode cJ6_valueOf_2dffe 7 = .ok (.getstatic 191, 3) := by decide +kernel
theorem dJ6_valueOf_2dffe_10 : decode cJ6_valueOf_2dffe 10 = .ok (.if_icmp .gt 13, 3) := by decide +kernel
theorem dJ6_valueOf_2dffe_13 : decode cJ6_valueOf_2dffe 13 = .ok (.getstatic 195, 3) := by decide +kernel
theorem dJ6_valueOf_2dffe_16 : decode cJ6_valueOf_2dffe 16 = .ok (.iload_n 0, 1) := by decide +kernel
theorem dJ6_valueOf_2dffe_17 : decode cJ6_valueOf_2dffe 17 = .ok (.sipush 128, 3) := by decide +kernel
theorem dJ6_valueOf_2dffe_20 : decode cJ6_valueOf_2dffe 20 = .ok (.iadd, 1) := by decide +kernel
theorem dJ6_valueOf_2dffe_21 : decode cJ6_valueOf_2dffe 21 = .ok (.aaload, 1) := by decide +kernel
theorem dJ6_valueOf_2dffe_22 : decode cJ6_valueOf_2dffe 22 = .ok (.areturn, 1) := by decide +kernel
theorem dJ6_valueOf_2dffe_23 : decode cJ6_valueOf_2dffe 23 = .ok (.new 1, 3) := by decide +kernel
theorem dJ6_valueOf_2dffe_26 : decode cJ6_valueOf_2dffe 26 = .ok (.dup, 1) := by decide +kernel
theorem dJ6_valueOf_2dffe_27 : decode cJ6_valueOf_2dffe 27 = .ok (.iload_n 0, 1) := by decide +kernel
theorem dJ6_valueOf_2dffe_28 : decode cJ6_valueOf_2dffe 28 = .ok (.invokespecial 199, 3) := by decide +kernel
theorem dJ6_valueOf_2dffe_31 : decode cJ6_valueOf_2dffe 31 = .ok (.areturn, 1) := by decide +kernel
set_option maxRecDepth 100000 in
set_option maxHeartbeats 4000000 in
theorem m_box (l : Launch) (D : va_G) (cy : Nat → ClassId) {eda ca : Nat} {ia : Nat → Nat} {σ : SG} (x : Int32) (sz : Nat) : sgM l D cy eda ca ia σ sz yJ6_valueOf_2dffe (Cond.code yJ6_valueOf_2dffe cJ6_valueOf_2dffe 1 (some (.object "java/lang/Integer")) :: mWall) 3 55 1 1 [.int x] (fun v σ2 => ∃ y : Nat, v = some (.ref y) ∧ sgBx ia σ2 y ∧ sgQt σ σ2) := by
  refine sg_ofW (cc := cJ6_valueOf_2dffe) (maxL := 1) (ret := (some (.object "java/lang/Integer"))) (by decide) rfl (Nat.le_of_ble_eq_true rfl) (lv := [(0, .int x)]) rfl (fun p e s m below meth c ls H N hrt hnm F hB hl => ?_) sz
  have hx := F.1.1
  have hb := F.1.2.1
  have hown := F.1.2.2.2.1
  refine lv_iload_n hx hb dJ6_valueOf_2dffe_0 rfl (lv_at hl 0 rfl) ?_
  refine lv_bipush (v := (-128)) hx hb dJ6_valueOf_2dffe_1 (by decide) ?_
  refine lv_icmp_lt (tgt := 23) hx hb dJ6_valueOf_2dffe_3 (by decide) (fun c3 => ?_) (fun c3 => ?_)
  · refine sg_new (C := RJ6) (T := TJ6) (N0 := 1) (ci := 1) (ty0 := tyJ6) F hB (fun w h => List.mem_cons_of_mem _ (mmu_J6 w h)) tyJ6_ok (F.1.2.2.2.2 _ (List.mem_cons_of_mem _ (mm_7 _ (List.mem_of_getElem? (i := 28) rfl)))) (F.1.2.2.2.2 _ (List.mem_cons_of_mem _ (mm_7 _ (List.mem_of_getElem? (i := 29) rfl)))) (F.1.2.2.2.2 _ (List.mem_cons_of_mem _ (mm_7 _ (List.mem_of_getElem? (i := 30) rfl)))) rfl (by decide) (by decide +kernel) (Nat.le_of_ble_eq_true rfl) (Nat.add_le_add_right (Nat.le_of_ble_eq_true rfl) _) dJ6_valueOf_2dffe_23 (fun q23 H N hq23 hs23 hBn => ?_)
    clear hB; have hB := hBn; clear hBn
    refine lv_dup hx hb dJ6_valueOf_2dffe_26 rfl ?_
    refine lv_iload_n hx hb dJ6_valueOf_2dffe_27 rfl (lv_at hl 0 rfl) ?_
    refine sg_callI F hB (m_int l D cy (by rw [sgNw_T, if_pos rfl]) x _) (cwI 1 F.1.2.2.2.2 (mgN (mm_7 _ (List.mem_of_getElem? (i := 20) rfl))) rfl rfl rfl (F.1.2.2.2.2 _ (List.mem_cons_of_mem _ (mm_7 _ (List.mem_of_getElem? (i := 30) rfl)))) (F.1.2.2.2.2 _ (List.mem_cons_of_mem _ (mm_7 _ (List.mem_of_getElem? (i := 31) rfl)))) (F.1.2.2.2.2 _ (List.mem_cons_of_mem _ (mm_7 _ (List.mem_of_getElem? (i := 32) rfl)))) rfl ⟨by decide, by decide, by decide +kernel⟩ ⟨Nat.le_of_ble_eq_true rfl, Nat.le_of_ble_eq_true rfl⟩) rfl hl.1 rfl (Nat.le_of_ble_eq_true rfl) dJ6_valueOf_2dffe_28 (Nat.le_of_ble_eq_true rfl) (Nat.add_le_add_right (Nat.le_of_ble_eq_true rfl) _)  (fun H locs v σ28 N hBn hX28 hP => ?_)
    clear hB; have hB := hBn; clear hBn
    obtain ⟨rfl, rfl⟩ := hP
    exact sg_aret F hB hrt (Or.inl ⟨_, rfl⟩) (Or.inr ⟨_, rfl⟩) dJ6_valueOf_2dffe_31 (by decide) (by decide) (⟨_, rfl, Or.inl (show sgT (sgNw σ q23 2 0) q23 = 2 by rw [sgNw_T, if_pos rfl]), sgQt_PI (sgQt_nw hq23 (Or.inl rfl)) hq23⟩)
  · refine lv_iload_n hx hb dJ6_valueOf_2dffe_6 rfl (lv_at hl 0 rfl) ?_
    refine va_gets hx hb F.2.2.2.1.2.2.1 hB.1.2.2 hown (F.1.2.2.2.2 _ (List.mem_cons_of_mem _ (mm_7 _ (List.mem_of_getElem? (i := 26) rfl)))) (fun _ h9 => h9) dJ6_valueOf_2dffe_7 ?_
    refine lv_icmp_gt (tgt := 23) hx hb dJ6_valueOf_2dffe_10 (by decide) (fun c10 => ?_) (fun c10 => ?_)
    · refine sg_new (C := RJ6) (T := TJ6) (N0 := 1) (ci := 1) (ty0 := tyJ6) F hB (fun w h => List.mem_cons_of_mem _ (mmu_J6 w h)) tyJ6_ok (F.1.2.2.2.2 _ (List.mem_cons_of_mem _ (mm_7 _ (List.mem_of_getElem? (i := 28) rfl)))) (F.1.2.2.2.2 _ (List.mem_cons_of_mem _ (mm_7 _ (List.mem_of_getElem? (i := 29) rfl)))) (F.1.2.2.2.2 _ (List.mem_cons_of_mem _ (mm_7 _ (List.mem_of_getElem? (i := 30) rfl)))) rfl (by decide) (by decide +kernel) (Nat.le_of_ble_eq_true rfl) (Nat.add_le_add_right (Nat.le_of_ble_eq_true rfl) _) dJ6_valueOf_2dffe_23 (fun q23 H N hq23 hs23 hBn => ?_)
      clear hB; have hB := hBn; clear hBn
      refine lv_dup hx hb dJ6_valueOf_2dffe_26 rfl ?_
      refine lv_iload_n hx hb dJ6_valueOf_2dffe_27 rfl (lv_at hl 0 rfl) ?_
      refine sg_callI F hB (m_int l D cy (by rw [sgNw_T, if_pos rfl]) x _) (cwI 1 F.1.2.2.2.2 (mgN (mm_7 _ (List.mem_of_getElem? (i := 20) rfl))) rfl rfl rfl (F.1.2.2.2.2 _ (List.mem_cons_of_mem _ (mm_7 _ (List.mem_of_getElem? (i := 30) rfl)))) (F.1.2.2.2.2 _ (List.mem_cons_of_mem _ (mm_7 _ (List.mem_of_getElem? (i := 31) rfl)))) (F.1.2.2.2.2 _ (List.mem_cons_of_mem _ (mm_7 _ (List.mem_of_getElem? (i := 32) rfl)))) rfl ⟨by decide, by decide, by decide +kernel⟩ ⟨Nat.le_of_ble_eq_true rfl, Nat.le_of_ble_eq_true rfl⟩) rfl hl.1 rfl (Nat.le_of_ble_eq_true rfl) dJ6_valueOf_2dffe_28 (Nat.le_of_ble_eq_true rfl) (Nat.add_le_add_right (Nat.le_of_ble_eq_true rfl) _)  (fun H locs v σ28 N hBn hX28 hP => ?_)
      clear hB; have hB := hBn; clear hBn
      obtain ⟨rfl, rfl⟩ := hP
      exact sg_aret F hB hrt (Or.inl ⟨_, rfl⟩) (Or.inr ⟨_, rfl⟩) dJ6_valueOf_2dffe_31 (by decide) (by decide) (⟨_, rfl, Or.inl (show sgT (sgNw σ q23 2 0) q23 = 2 by rw [sgNw_T, if_pos rfl]), sgQt_PI (sgQt_nw hq23 (Or.inl rfl)) hq23⟩)
    · refine va_gets hx hb F.2.2.2.1.2.2.2.1 hB.1.2.2 hown (F.1.2.2.2.2 _ (List.mem_cons_of_mem _ (mm_7 _ (List.mem_of_getElem? (i := 27) rfl)))) (fun _ h9 => h9) dJ6_valueOf_2dffe_13 ?_
      refine lv_iload_n hx hb dJ6_valueOf_2dffe_16 rfl (lv_at hl 0 rfl) ?_
      refine lv_sipush (v := 128) hx hb dJ6_valueOf_2dffe_17 (by decide) ?_
      refine lv_iadd hx hb dJ6_valueOf_2dffe_20 ?_
      have d3 := i_nlt c3
      have d10 : x.toInt ≤ 127 := i_nlt c10
      have d3 : -128 ≤ x.toInt := d3
      have e21 : (x + 128).toInt = x.toInt + 128 := i_add (by show _ ≤ x.toInt + 128; omega) (by show x.toInt + 128 ≤ _; omega)
      refine vb_tq (C := "java/lang/Integer") hx hb F.2.2.2.1.2.2.2.2.1 hB.1.2.2 (sg_vpin (N := 256) (by omega) (by omega) (by decide)).1 rfl dJ6_valueOf_2dffe_21 ?_
      exact sg_aret F hB hrt (Or.inl ⟨_, rfl⟩) (Or.inr ⟨_, rfl⟩) dJ6_valueOf_2dffe_22 (by decide) (by decide) (⟨_, rfl, Or.inr ⟨_, (by show (x + 128).toInt.toNat < 256; omega), rfl⟩, sgQt_rf⟩)
theorem dJ6_intValue_8abf5_0 : decode cJ6_intValue_8abf5 0 = .ok (.aload_n 0, 1) := by decide +kernel
theorem dJ6_intValue_8abf5_1 : decode cJ6_intValue_8abf5 1 = .ok (.getfield 205, 3) := by decide +kernel
theorem dJ6_intValue_8abf5_4 : decode cJ6_intValue_8abf5 4 = .ok (.ireturn, 1) := by decide +kernel
set_option maxRecDepth 100000 in
set_option maxHeartbeats 4000000 in
theorem m_unbox1 (l : Launch) (D : va_G) (cy : Nat → ClassId) {eda ca : Nat} {ia : Nat → Nat} {σ : SG} {y : Nat} (ht : sgT σ y = 2) (sz : Nat) : sgM l D cy eda ca ia σ sz yJ6_intValue_8abf5 (Cond.code yJ6_intValue_8abf5 cJ6_intValue_8abf5 1 (some .int) :: mWall) 0 0 0 0 [.ref y] (fun v σ2 => (∃ x : Int32, v = some (.int x)) ∧ σ = σ2) := by
  refine sg_ofW (cc := cJ6_intValue_8abf5) (maxL := 1) (ret := (some .int)) (by decide) rfl (Nat.le_of_ble_eq_true rfl) (lv := [(0, .ref y)]) rfl (fun p e s m below meth c ls H N hrt hnm F hB hl => ?_) sz
  have hx := F.1.1
  have hb := F.1.2.1
  have hown := F.1.2.2.2.1
  refine lv_aload_n hx hb dJ6_intValue_8abf5_0 rfl (lv_at hl 0 rfl) ?_
  refine gf_J6_205 F hB dJ6_intValue_8abf5_1 (by assumption) ?_
  exact sg_iret F hB hrt dJ6_intValue_8abf5_4 (by decide) (by decide) (⟨⟨_, rfl⟩, rfl⟩)

set_option maxRecDepth 100000 in
set_option maxHeartbeats 4000000 in
theorem m_unbox2 (l : Launch) (D : va_G) (cy : Nat → ClassId) {eda ca : Nat} {ia : Nat → Nat} {σ : SG} {y kx : Nat} (hk : kx < 256) (he : y = ia kx) (sz : Nat) : sgM l D cy eda ca ia σ sz yJ6_intValue_8abf5 (Cond.code yJ6_intValue_8abf5 cJ6_intValue_8abf5 1 (some .int) :: mWall) 0 0 0 0 [.ref y] (fun v σ2 => (∃ x : Int32, v = some (.int x)) ∧ σ = σ2) := by
  refine sg_ofW (cc := cJ6_intValue_8abf5) (maxL := 1) (ret := (some .int)) (by decide) rfl (Nat.le_of_ble_eq_true rfl) (lv := [(0, .ref y)]) rfl (fun p e s m below meth c ls H N hrt hnm F hB hl => ?_) sz
  have hx := F.1.1
  have hb := F.1.2.1
  have hown := F.1.2.2.2.1
  subst he
  refine lv_aload_n hx hb dJ6_intValue_8abf5_0 rfl (lv_at hl 0 rfl) ?_
  refine va_getX (i := kx) (v := fun k => .int (vb_c k)) hx hb F.2.2.2.1.2.2.2.2.2.2.2.2.2.1 hk hB.1.2.2 hown (F.1.2.2.2.2 _ (List.mem_cons_of_mem _ (mm_7 _ (List.mem_of_getElem? (i := 21) rfl)))) (fun _ h9 => h9) dJ6_intValue_8abf5_1 ?_
  exact sg_iret F hB hrt dJ6_intValue_8abf5_4 (by decide) (by decide) (⟨⟨_, rfl⟩, rfl⟩)
theorem m_unbox (l : Launch) (D : va_G) (cy : Nat → ClassId) {eda ca : Nat} {ia : Nat → Nat} {σ : SG} {y : Nat} (h : sgBx ia σ y) (sz : Nat) : sgM l D cy eda ca ia σ sz yJ6_intValue_8abf5 (Cond.code yJ6_intValue_8abf5 cJ6_intValue_8abf5 1 (some .int) :: mWall) 0 0 0 0 [.ref y] (fun v σ2 => (∃ x : Int32, v = some (.int x)) ∧ σ = σ2) := by
  rcases h with h | ⟨k, hk, he⟩
  · exact m_unbox1 l D cy h sz
  · exact m_unbox2 l D cy hk he sz
theorem dJx4a65c_clear_da8c8_0 : decode cJx4a65c_clear_da8c8 0 = .ok (.aload_n 0, 1) := by decide +kernel
theorem dJx4a65c_clear_da8c8_1 : decode cJx4a65c_clear_da8c8 1 = .ok (.dup, 1) := by decide +kernel
theorem dJx4a65c_clear_da8c8_2 : decode cJx4a65c_clear_da8c8 2 = .ok (.getfield 63, 3) := by decide +kernel
theorem dJx4a65c_clear_da8c8_5 : decode cJx4a65c_clear_da8c8 5 = .ok (.iconst 1, 1) := by decide +kernel
theorem dJx4a65c_clear_da8c8_6 : decode cJx4a65c_clear_da8c8 6 = .ok (.iadd, 1) := by decide +kernel
theorem dJx4a65c_clear_da8c8_7 : decode cJx4a65c_clear_da8c8 7 = .ok (.putfield 63, 3) := by decide +kernel
theorem dJx4a65c_clear_da8c8_10 : decode cJx4a65c_clear_da8c8 10 = .ok (.aload_n 0, 1) := by decide +kernel
theorem dJx4a65c_clear_da8c8_11 : decode cJx4a65c_clear_da8c8 11 = .ok (.getfield 9, 3) := by decide +kernel
theorem dJx4a65c_clear_da8c8_14 : decode cJx4a65c_clear_da8c8 14 = .ok (.astore_n 1, 1) := by decide +kernel
theorem dJx4a65c_clear_da8c8_15 : decode cJx4a65c_clear_da8c8 15 = .ok (.aload_n 0, 1) := by decide +kernel
theorem dJx4a65c_clear_da8c8_16 : decode cJx4a65c_clear_da8c8 16 = .ok (.getfield 48, 3) := by decide +kernel
theorem dJx4a65c_clear_da8c8_19 : decode cJx4a65c_clear_da8c8 19 = .ok (.istore_n 2, 1) := by decide +kernel
theorem dJx4a65c_clear_da8c8_20 : decode cJx4a65c_clear_da8c8 20 = .ok (.aload_n 0, 1) := by decide +kernel
theorem dJx4a65c_clear_da8c8_21 : decode cJx4a65c_clear_da8c8 21 = .ok (.iconst 0, 1) := by decide +kernel
theorem dJx4a65c_clear_da8c8_22 : decode cJx4a65c_clear_da8c8 22 = .ok (.dup_x1, 1) := by decide +kernel
theorem dJx4a65c_clear_da8c8_23 : decode cJx4a65c_clear_da8c8 23 = .ok (.putfield 48, 3) := by decide +kernel
theorem dJx4a65c_clear_da8c8_26 : decode cJx4a65c_clear_da8c8 26 = .ok (.istore_n 3, 1) := by decide +kernel
theorem dJx4a65c_clear_da8c8_27 : decode cJx4a65c_clear_da8c8 27 = .ok (.iload_n 3, 1) := by decide +kernel
theorem dJx4a65c_clear_da8c8_28 : decode cJx4a65c_clear_da8c8 28 = .ok (.iload_n 2, 1) := by decide +kernel
theorem dJx4a65c_clear_da8c8_29 : decode cJx4a65c_clear_da8c8 29 = .ok (.if_icmp .ge 13, 3) := by decide +kernel
theorem dJx4a65c_clear_da8c8_32 : decode cJx4a65c_clear_da8c8 32 = .ok (.aload_n 1, 1) := by decide +kernel
theorem dJx4a65c_clear_da8c8_33 : decode cJx4a65c_clear_da8c8 33 = .ok (.iload_n 3, 1) := by decide +kernel
theorem dJx4a65c_clear_da8c8_34 : decode cJx4a65c_clear_da8c8 34 = .ok (.aconst_null, 1) := by decide +kernel
theorem dJx4a65c_clear_da8c8_35 : decode cJx4a65c_clear_da8c8 35 = .ok (.aastore, 1) := by decide +kernel
theorem dJx4a65c_clear_da8c8_36 : decode cJx4a65c_clear_da8c8 36 = .ok (.iinc 3 1, 3) := by decide +kernel
theorem dJx4a65c_clear_da8c8_39 : decode cJx4a65c_clear_da8c8 39 = .ok (.goto (-12), 3) := by decide +kernel
theorem dJx4a65c_clear_da8c8_42 : decode cJx4a65c_clear_da8c8 42 = .ok (.return_, 1) := by decide +kernel
set_option maxRecDepth 100000 in
set_option maxHeartbeats 4000000 in
theorem m_clear (l : Launch) (D : va_G) (cy : Nat → ClassId) {eda ca : Nat} {ia : Nat → Nat} {σ : SG} {l0 r sz1 : Nat} (hL : sgLs σ l0 r sz1) (sz : Nat) : sgM l D cy eda ca ia σ sz yJx4a65c_clear_da8c8 (Cond.code yJx4a65c_clear_da8c8 cJx4a65c_clear_da8c8 4 none :: mWall) 0 0 0 0 [.ref l0] (fun v σ2 => v = none ∧ sgOn l0 r σ σ2 ∧ sgI σ2 l0 2 = 0 ∧ sgR σ2 l0 1 = some r ∧ (∀ j y, sgR σ2 r j = some y → sgR σ r j = some y)) := by
  refine sg_ofW (cc := cJx4a65c_clear_da8c8) (maxL := 4) (ret := none) (by decide) rfl (Nat.le_of_ble_eq_true rfl) (lv := [(0, .ref l0)]) rfl (fun p e s m below meth c ls H N hrt hnm F hB hl => ?_) sz
  have hx := F.1.1
  have hb := F.1.2.1
  have hown := F.1.2.2.2.1
  obtain ⟨ht, hr1, htr, hsz, hle, hN9⟩ := id hL
  have hlr : r ≠ l0 := fun z => by rw [z, ht] at htr; exact absurd htr (by decide)
  refine lv_aload_n hx hb dJx4a65c_clear_da8c8_0 rfl (lv_at hl 0 rfl) ?_
  refine lv_dup hx hb dJx4a65c_clear_da8c8_1 rfl ?_
  refine gf_Jx4a65c_63 F hB dJx4a65c_clear_da8c8_2 (by assumption) ?_
  refine lv_iconst (v := 1) hx hb dJx4a65c_clear_da8c8_5 (by decide) ?_
  refine lv_iadd hx hb dJx4a65c_clear_da8c8_6 ?_
  refine pf_Jx4a65c_63 (d := 0) F hB dJx4a65c_clear_da8c8_7 (by assumption) sgPot_mod (fun H locs hBn => ?_)
  clear hB; have hB := hBn; clear hBn
  refine lv_aload_n hx hb dJx4a65c_clear_da8c8_10 rfl (lv_at hl 0 rfl) ?_
  refine gr_Jx4a65c_9 F hB dJx4a65c_clear_da8c8_11 (by assumption) hr1 ?_
  refine lv_astore_n (lv' := [(1, .ref _), (0, .ref _)]) hx hb dJx4a65c_clear_da8c8_14 rfl hl (by decide) rfl (fun ls hl => ?_)
  refine lv_aload_n hx hb dJx4a65c_clear_da8c8_15 rfl (lv_at hl 1 rfl) ?_
  refine gf_Jx4a65c_48 F hB dJx4a65c_clear_da8c8_16 (by assumption) ?_
  refine lv_istore_n (lv' := [(2, .int _), (1, .ref _), (0, .ref _)]) hx hb dJx4a65c_clear_da8c8_19 rfl hl (by decide) rfl (fun ls hl => ?_)
  refine lv_aload_n hx hb dJx4a65c_clear_da8c8_20 rfl (lv_at hl 2 rfl) ?_
  refine lv_iconst (v := 0) hx hb dJx4a65c_clear_da8c8_21 (by decide) ?_
  refine lv_dup_x1 hx hb dJx4a65c_clear_da8c8_22 rfl rfl ?_
  refine pf_Jx4a65c_48 (d := 0) F hB dJx4a65c_clear_da8c8_23 (by assumption) (by have := sgPot_size (σ := sgPI σ l0 0 (sgI σ l0 0 + 1)) (a := l0) (x := 0) (e := 0) (by rw [show Int32.toNatClampNeg 0 = 0 from rfl]; omega); simpa using this) (fun H locs hBn => ?_)
  clear hB; have hB := hBn; clear hBn
  refine lv_istore_n (lv' := [(3, .int _), (2, .int _), (1, .ref _), (0, .ref _)]) hx hb dJx4a65c_clear_da8c8_26 rfl hl (by decide) rfl (fun ls hl => ?_)
  have key27 : ∃ (σ1 : SG) (i z : Int32), sgB D cy s σ σ1 H locs N 0 ∧ lv_has ls 4 [(3, .int i), (2, .int z), (1, .ref r), (0, .ref l0)] ∧ z.toInt = sz1 ∧ sgOn l0 r σ σ1 ∧ sgI σ1 l0 2 = 0 ∧ 0 ≤ i.toInt ∧ i.toInt ≤ sz1 ∧ (∀ j y, sgR σ1 r j = some y → sgR σ r j = some y) ∧ sgR σ1 l0 1 = some r := ⟨_, 0, _, hB, lv_sub hl [0, 1, 2, 3] rfl, (by rw [sgI_PI, if_neg (fun z => by cases z.2)]; exact hsz), sgOn_I (sgOn_I sgOn_rf), (by rw [sgI_PI, if_pos ⟨rfl, rfl⟩]), (by decide), (by show (0 : Int) ≤ _; omega), (fun _ _ h => h), hr1⟩
  clear hB hl
  obtain ⟨σ1, i, z, hB, hl, hz, h1, h2, h3, h4, h5, h6⟩ := key27
  obtain ⟨d, hd⟩ : ∃ d : Nat, d = sz1 - i.toInt.toNat := ⟨_, rfl⟩
  induction d using Nat.strongRecOn generalizing H locs ls N σ1 i z
  rename_i d ih
  refine lv_iload_n hx hb dJx4a65c_clear_da8c8_27 rfl (lv_at hl 0 rfl) ?_
  refine lv_iload_n hx hb dJx4a65c_clear_da8c8_28 rfl (lv_at hl 1 rfl) ?_
  refine lv_icmp_ge (tgt := 42) hx hb dJx4a65c_clear_da8c8_29 (by decide) (fun c29 => ?_) (fun c29 => ?_)
  · exact sg_vret F hB hrt dJx4a65c_clear_da8c8_42 (by decide) (by decide) (⟨rfl, h1, h2, h6, h5⟩)
  · refine lv_aload_n hx hb dJx4a65c_clear_da8c8_32 rfl (lv_at hl 2 rfl) ?_
    refine lv_iload_n hx hb dJx4a65c_clear_da8c8_33 rfl (lv_at hl 0 rfl) ?_
    refine lv_null hx hb dJx4a65c_clear_da8c8_34 ?_
    have e29 : i.toInt < sz1 := by have := Int32.not_le.mp c29; have := i_lt this; omega
    have e36 : (i + Int32.ofInt 1).toInt = i.toInt + 1 := i_add (by show _ ≤ i.toInt + 1; omega) (by show i.toInt + 1 ≤ _; omega)
    refine sg_aastN 10 hx hb F.2.1 hB.1 rfl rfl dJx4a65c_clear_da8c8_35 (by rw [(h1.1 r).1]; exact htr) h3 (by rw [(h1.1 r).2]; omega) (by rw [(h1.1 r).2]; omega) (fun H locs hs1 => ?_)
    have hBn := sgB_w hB hs1 (fun _ => rfl) (fun _ => rfl) (Nat.le_of_eq (sgPot_R (fun z9 => absurd ((Eq.symm ((h1.1 r).1.trans htr)).trans z9) (by decide))))
    clear hB; have hB := hBn; clear hBn
    refine lv_iinc (lv' := [(3, .int _), (2, .int _), (1, .ref _), (0, .ref _)]) hx hb dJx4a65c_clear_da8c8_36 hl (k := 0) rfl rfl (by decide) rfl (fun ls hl => ?_)
    refine lv_goto (tgt := 27) hx hb dJx4a65c_clear_da8c8_39 (by decide) ?_
    exact ih _ (by omega) _ _ _ _ _ _ _ hB (lv_sub hl [0, 1, 2, 3] rfl) hz (sgOn_R h1) h2 (by omega) (by omega) (fun j y h9 => h5 j y (m_pn h9)) (by rw [sgR_PR, if_neg (fun q => hlr q.1.symm)]; exact h6) rfl
end MM3
