section MM1
theorem dX14_in_0 : decode cX14_in 0 = .ok (.iload_n 0, 1) := by decide +kernel
theorem dX14_in_1 : decode cX14_in 1 = .ok (.iload_n 1, 1) := by decide +kernel
theorem dX14_in_2 : decode cX14_in 2 = .ok (.if_icmp .lt 12, 3) := by decide +kernel
theorem dX14_in_5 : decode cX14_in 5 = .ok (.iload_n 0, 1) := by decide +kernel
theorem dX14_in_6 : decode cX14_in 6 = .ok (.iload_n 2, 1) := by decide +kernel
theorem dX14_in_7 : decode cX14_in 7 = .ok (.if_icmp .gt 7, 3) := by decide +kernel
theorem dX14_in_10 : decode cX14_in 10 = .ok (.iconst 1, 1) := by decide +kernel
theorem dX14_in_11 : decode cX14_in 11 = .ok (.goto 4, 3) := by decide +kernel
theorem dX14_in_14 : decode cX14_in 14 = .ok (.iconst 0, 1) := by decide +kernel
theorem dX14_in_15 : decode cX14_in 15 = .ok (.ireturn, 1) := by decide +kernel
set_option maxRecDepth 100000 in
set_option maxHeartbeats 4000000 in
theorem m_in (l : Launch) (D : va_G) (cy : Nat → ClassId) {eda ca : Nat} {ia : Nat → Nat} {σ : SG} (x lo hi : Int32) (sz : Nat) : sgM l D cy eda ca ia σ sz yX14_in (Cond.code yX14_in cX14_in 3 (some .boolean) :: mWall) 0 0 0 0 [.int x, .int lo, .int hi] (fun v σ2 => ∃ b : Int32, v = some (.int b) ∧ σ = σ2 ∧ sgb b (lo.toInt ≤ x.toInt ∧ x.toInt ≤ hi.toInt)) := by
  refine sg_ofW (cc := cX14_in) (maxL := 3) (ret := (some .boolean)) (by decide) rfl (Nat.le_of_ble_eq_true rfl) (lv := [(0, .int x), (1, .int lo), (2, .int hi)]) rfl (fun p e s m below meth c ls H N hrt hnm F hB hl => ?_) sz
  have hx := F.1.1
  have hb := F.1.2.1
  have hown := F.1.2.2.2.1
  refine lv_iload_n hx hb dX14_in_0 rfl (lv_at hl 0 rfl) ?_
  refine lv_iload_n hx hb dX14_in_1 rfl (lv_at hl 1 rfl) ?_
  refine lv_icmp_lt (tgt := 14) hx hb dX14_in_2 (by decide) (fun c2 => ?_) (fun c2 => ?_)
  · refine lv_iconst (v := 0) hx hb dX14_in_14 (by decide) ?_
    exact sg_zret F hB hrt dX14_in_15 (by decide) (by decide) rfl (by first | exact ⟨_, rfl, rfl, sgb_1 ⟨i_nlt c2, i_nlt c7⟩⟩ | exact ⟨_, rfl, rfl, sgb_0 (fun z => by have := i_lt c2; omega)⟩ | exact ⟨_, rfl, rfl, sgb_0 (fun z => by have := i_lt c7; omega)⟩)
  · refine lv_iload_n hx hb dX14_in_5 rfl (lv_at hl 0 rfl) ?_
    refine lv_iload_n hx hb dX14_in_6 rfl (lv_at hl 2 rfl) ?_
    refine lv_icmp_gt (tgt := 14) hx hb dX14_in_7 (by decide) (fun c7 => ?_) (fun c7 => ?_)
    · refine lv_iconst (v := 0) hx hb dX14_in_14 (by decide) ?_
      exact sg_zret F hB hrt dX14_in_15 (by decide) (by decide) rfl (by first | exact ⟨_, rfl, rfl, sgb_1 ⟨i_nlt c2, i_nlt c7⟩⟩ | exact ⟨_, rfl, rfl, sgb_0 (fun z => by have := i_lt c2; omega)⟩ | exact ⟨_, rfl, rfl, sgb_0 (fun z => by have := i_lt c7; omega)⟩)
    · refine lv_iconst (v := 1) hx hb dX14_in_10 (by decide) ?_
      refine lv_goto (tgt := 15) hx hb dX14_in_11 (by decide) ?_
      exact sg_zret F hB hrt dX14_in_15 (by decide) (by decide) rfl (by first | exact ⟨_, rfl, rfl, sgb_1 ⟨i_nlt c2, i_nlt c7⟩⟩ | exact ⟨_, rfl, rfl, sgb_0 (fun z => by have := i_lt c2; omega)⟩ | exact ⟨_, rfl, rfl, sgb_0 (fun z => by have := i_lt c7; omega)⟩)
theorem dJx4a65c_size_8abf5_0 : decode cJx4a65c_size_8abf5 0 = .ok (.aload_n 0, 1) := by decide +kernel
theorem dJx4a65c_size_8abf5_1 : decode cJx4a65c_size_8abf5 1 = .ok (.getfield 48, 3) := by decide +kernel
theorem dJx4a65c_size_8abf5_4 : decode cJx4a65c_size_8abf5 4 = .ok (.ireturn, 1) := by decide +kernel
set_option maxRecDepth 100000 in
set_option maxHeartbeats 4000000 in
theorem m_size (l : Launch) (D : va_G) (cy : Nat → ClassId) {eda ca : Nat} {ia : Nat → Nat} {σ : SG} {l0 : Nat} (ht : sgT σ l0 = 5) (sz : Nat) : sgM l D cy eda ca ia σ sz yJx4a65c_size_8abf5 (Cond.code yJx4a65c_size_8abf5 cJx4a65c_size_8abf5 1 (some .int) :: mWall) 0 0 0 0 [.ref l0] (fun v σ2 => v = some (.int (sgI σ l0 2)) ∧ σ = σ2) := by
  refine sg_ofW (cc := cJx4a65c_size_8abf5) (maxL := 1) (ret := (some .int)) (by decide) rfl (Nat.le_of_ble_eq_true rfl) (lv := [(0, .ref l0)]) rfl (fun p e s m below meth c ls H N hrt hnm F hB hl => ?_) sz
  have hx := F.1.1
  have hb := F.1.2.1
  have hown := F.1.2.2.2.1
  refine lv_aload_n hx hb dJx4a65c_size_8abf5_0 rfl (lv_at hl 0 rfl) ?_
  refine gf_Jx4a65c_48 F hB dJx4a65c_size_8abf5_1 (by assumption) ?_
  exact sg_iret F hB hrt dJx4a65c_size_8abf5_4 (by decide) (by decide) (⟨rfl, rfl⟩)
theorem dJx4a65c_isEmpty_aae02_0 : decode cJx4a65c_isEmpty_aae02 0 = .ok (.aload_n 0, 1) := by decide +kernel
theorem dJx4a65c_isEmpty_aae02_1 : decode cJx4a65c_isEmpty_aae02 1 = .ok (.getfield 48, 3) := by decide +kernel
theorem dJx4a65c_isEmpty_aae02_4 : decode cJx4a65c_isEmpty_aae02 4 = .ok (.ifCond .ne 7, 3) := by decide +kernel
theorem dJx4a65c_isEmpty_aae02_7 : decode cJx4a65c_isEmpty_aae02 7 = .ok (.iconst 1, 1) := by decide +kernel
theorem dJx4a65c_isEmpty_aae02_8 : decode cJx4a65c_isEmpty_aae02 8 = .ok (.goto 4, 3) := by decide +kernel
theorem dJx4a65c_isEmpty_aae02_11 : decode cJx4a65c_isEmpty_aae02 11 = .ok (.iconst 0, 1) := by decide +kernel
theorem dJx4a65c_isEmpty_aae02_12 : decode cJx4a65c_isEmpty_aae02 12 = .ok (.ireturn, 1) := by decide +kernel
set_option maxRecDepth 100000 in
set_option maxHeartbeats 4000000 in
theorem m_isEmpty (l : Launch) (D : va_G) (cy : Nat → ClassId) {eda ca : Nat} {ia : Nat → Nat} {σ : SG} {l0 : Nat} (ht : sgT σ l0 = 5) (sz : Nat) : sgM l D cy eda ca ia σ sz yJx4a65c_isEmpty_aae02 (Cond.code yJx4a65c_isEmpty_aae02 cJx4a65c_isEmpty_aae02 1 (some .boolean) :: mWall) 0 0 0 0 [.ref l0] (fun v σ2 => ∃ b : Int32, v = some (.int b) ∧ σ = σ2 ∧ sgb b ((sgI σ l0 2).toInt = 0)) := by
  refine sg_ofW (cc := cJx4a65c_isEmpty_aae02) (maxL := 1) (ret := (some .boolean)) (by decide) rfl (Nat.le_of_ble_eq_true rfl) (lv := [(0, .ref l0)]) rfl (fun p e s m below meth c ls H N hrt hnm F hB hl => ?_) sz
  have hx := F.1.1
  have hb := F.1.2.1
  have hown := F.1.2.2.2.1
  refine lv_aload_n hx hb dJx4a65c_isEmpty_aae02_0 rfl (lv_at hl 0 rfl) ?_
  refine gf_Jx4a65c_48 F hB dJx4a65c_isEmpty_aae02_1 (by assumption) ?_
  refine lv_if_ne (tgt := 11) hx hb dJx4a65c_isEmpty_aae02_4 (by decide) (fun c4 => ?_) (fun c4 => ?_)
  · refine lv_iconst (v := 0) hx hb dJx4a65c_isEmpty_aae02_11 (by decide) ?_
    exact sg_zret F hB hrt dJx4a65c_isEmpty_aae02_12 (by decide) (by decide) rfl (by first | exact ⟨_, rfl, rfl, sgb_1 (by rw [show sgI σ l0 2 = 0 by simpa using c4]; rfl)⟩ | exact ⟨_, rfl, rfl, sgb_0 (fun z => c4 (i_eq.mpr z))⟩)
  · refine lv_iconst (v := 1) hx hb dJx4a65c_isEmpty_aae02_7 (by decide) ?_
    refine lv_goto (tgt := 12) hx hb dJx4a65c_isEmpty_aae02_8 (by decide) ?_
    exact sg_zret F hB hrt dJx4a65c_isEmpty_aae02_12 (by decide) (by decide) rfl (by first | exact ⟨_, rfl, rfl, sgb_1 (by rw [show sgI σ l0 2 = 0 by simpa using c4]; rfl)⟩ | exact ⟨_, rfl, rfl, sgb_0 (fun z => c4 (i_eq.mpr z))⟩)
theorem dJ3_checkIndex_8e157_0 : decode cJ3_checkIndex_8e157 0 = .ok (.iload_n 0, 1) := by decide +kernel
theorem dJ3_checkIndex_8e157_1 : decode cJ3_checkIndex_8e157 1 = .ok (.ifCond .lt 8, 3) := by decide +kernel
theorem dJ3_checkIndex_8e157_4 : decode cJ3_checkIndex_8e157 4 = .ok (.iload_n 0, 1) := by decide +kernel
theorem dJ3_checkIndex_8e157_5 : decode cJ3_checkIndex_8e157 5 = .ok (.iload_n 1, 1) := by decide +kernel
theorem dJ3_checkIndex_8e157_6 : decode cJ3_checkIndex_8e157 6 = .ok (.if_icmp .lt 10, 3) := by decide +kernel
theorem dJ3_checkIndex_8e157_16 : decode cJ3_checkIndex_8e157 16 = .ok (.iload_n 0, 1) := by decide +kernel
theorem dJ3_checkIndex_8e157_17 : decode cJ3_checkIndex_8e157 17 = .ok (.ireturn, 1) := by decide +kernel
set_option maxRecDepth 100000 in
set_option maxHeartbeats 4000000 in
theorem m_chk3 (l : Launch) (D : va_G) (cy : Nat → ClassId) {eda ca : Nat} {ia : Nat → Nat} {σ : SG} (x n : Int32) (h1 : 0 ≤ x.toInt) (h2 : x.toInt < n.toInt) (sz : Nat) : sgM l D cy eda ca ia σ sz yJ3_checkIndex_8e157 (Cond.code yJ3_checkIndex_8e157 cJ3_checkIndex_8e157 3 (some .int) :: mWall) 0 0 0 0 [.int x, .int n, .null] (fun v σ2 => v = some (.int x) ∧ σ = σ2) := by
  refine sg_ofW (cc := cJ3_checkIndex_8e157) (maxL := 3) (ret := (some .int)) (by decide) rfl (Nat.le_of_ble_eq_true rfl) (lv := [(0, .int x), (1, .int n), (2, .null)]) rfl (fun p e s m below meth c ls H N hrt hnm F hB hl => ?_) sz
  have hx := F.1.1
  have hb := F.1.2.1
  have hown := F.1.2.2.2.1
  refine lv_iload_n hx hb dJ3_checkIndex_8e157_0 rfl (lv_at hl 0 rfl) ?_
  refine lv_if_lt (tgt := 9) hx hb dJ3_checkIndex_8e157_1 (by decide) (fun c1 => ((by have z := i_lt c1; have e : (0 : Int32).toInt = 0 := rfl; omega : False)).elim) (fun c1 => ?_)
  refine lv_iload_n hx hb dJ3_checkIndex_8e157_4 rfl (lv_at hl 0 rfl) ?_
  refine lv_iload_n hx hb dJ3_checkIndex_8e157_5 rfl (lv_at hl 1 rfl) ?_
  refine lv_icmp_lt (tgt := 16) hx hb dJ3_checkIndex_8e157_6 (by decide) (fun c6 => ?_) (fun c6 => ((by have z := i_nlt c6; omega : False)).elim)
  refine lv_iload_n hx hb dJ3_checkIndex_8e157_16 rfl (lv_at hl 0 rfl) ?_
  exact sg_iret F hB hrt dJ3_checkIndex_8e157_17 (by decide) (by decide) (⟨rfl, rfl⟩)
theorem dJ15_checkIndex_7cf53_0 : decode cJ15_checkIndex_7cf53 0 = .ok (.iload_n 0, 1) := by decide +kernel
theorem dJ15_checkIndex_7cf53_1 : decode cJ15_checkIndex_7cf53 1 = .ok (.iload_n 1, 1) := by decide +kernel
theorem dJ15_checkIndex_7cf53_2 : decode cJ15_checkIndex_7cf53 2 = .ok (.aconst_null, 1) := by decide +kernel
theorem dJ15_checkIndex_7cf53_3 : decode cJ15_checkIndex_7cf53 3 = .ok (.invokestatic 105, 3) := by decide +kernel
theorem dJ15_checkIndex_7cf53_6 : decode cJ15_checkIndex_7cf53 6 = .ok (.ireturn, 1) := by decide +kernel
set_option maxRecDepth 100000 in
set_option maxHeartbeats 4000000 in
theorem m_chk (l : Launch) (D : va_G) (cy : Nat → ClassId) {eda ca : Nat} {ia : Nat → Nat} {σ : SG} (x n : Int32) (h1 : 0 ≤ x.toInt) (h2 : x.toInt < n.toInt) (sz : Nat) : sgM l D cy eda ca ia σ sz yJ15_checkIndex_7cf53 (Cond.code yJ15_checkIndex_7cf53 cJ15_checkIndex_7cf53 2 (some .int) :: mWall) 1 22 0 0 [.int x, .int n] (fun v σ2 => v = some (.int x) ∧ σ = σ2) := by
  refine sg_ofW (cc := cJ15_checkIndex_7cf53) (maxL := 2) (ret := (some .int)) (by decide) rfl (Nat.le_of_ble_eq_true rfl) (lv := [(0, .int x), (1, .int n)]) rfl (fun p e s m below meth c ls H N hrt hnm F hB hl => ?_) sz
  have hx := F.1.1
  have hb := F.1.2.1
  have hown := F.1.2.2.2.1
  refine lv_iload_n hx hb dJ15_checkIndex_7cf53_0 rfl (lv_at hl 0 rfl) ?_
  refine lv_iload_n hx hb dJ15_checkIndex_7cf53_1 rfl (lv_at hl 1 rfl) ?_
  refine lv_null hx hb dJ15_checkIndex_7cf53_2 ?_
  refine sg_callS F hB (m_chk3 l D cy x n h1 h2 _) (va_cwS 3 F.1.2.2.2.2 (mgS2 (mm_3 _ (List.mem_of_getElem? (i := 30) rfl)) (mm_3 _ (List.mem_of_getElem? (i := 31) rfl)) (mm_3 _ (List.mem_of_getElem? (i := 32) rfl)) (mm_3 _ (List.mem_of_getElem? (i := 28) rfl))) rfl rfl rfl ⟨by decide, by decide, by decide +kernel⟩ ⟨Nat.le_of_ble_eq_true rfl, Nat.le_of_ble_eq_true rfl⟩) rfl hl.1 rfl (Nat.le_of_ble_eq_true rfl) dJ15_checkIndex_7cf53_3 (Nat.le_of_ble_eq_true rfl) (Nat.add_le_add_right (Nat.le_of_ble_eq_true rfl) _)  (fun H locs v σ3 N hBn hX3 hP => ?_)
  clear hB; have hB := hBn; clear hBn
  obtain ⟨rfl, rfl⟩ := hP
  exact sg_iret F hB hrt dJ15_checkIndex_7cf53_6 (by decide) (by decide) (⟨rfl, rfl⟩)
theorem dJx4a65c_elementData_915e3_0 : decode cJx4a65c_elementData_915e3 0 = .ok (.aload_n 0, 1) := by decide +kernel
theorem dJx4a65c_elementData_915e3_1 : decode cJx4a65c_elementData_915e3 1 = .ok (.getfield 9, 3) := by decide +kernel
theorem dJx4a65c_elementData_915e3_4 : decode cJx4a65c_elementData_915e3 4 = .ok (.iload_n 1, 1) := by decide +kernel
theorem dJx4a65c_elementData_915e3_5 : decode cJx4a65c_elementData_915e3 5 = .ok (.aaload, 1) := by decide +kernel
theorem dJx4a65c_elementData_915e3_6 : decode cJx4a65c_elementData_915e3 6 = .ok (.areturn, 1) := by decide +kernel
set_option maxRecDepth 100000 in
set_option maxHeartbeats 4000000 in
theorem m_eld (l : Launch) (D : va_G) (cy : Nat → ClassId) {eda ca : Nat} {ia : Nat → Nat} {σ : SG} {l0 r sz : Nat} (hL : sgLs σ l0 r sz) (x : Int32) {y0 : Nat} (h1 : 0 ≤ x.toInt) (h2 : x.toInt < sz) (hy : sgR σ r x.toInt.toNat = some y0) (sz : Nat) : sgM l D cy eda ca ia σ sz yJx4a65c_elementData_915e3 (Cond.code yJx4a65c_elementData_915e3 cJx4a65c_elementData_915e3 2 (some (.object "java/lang/Object")) :: mWall) 0 0 0 0 [.ref l0, .int x] (fun v σ2 => v = some (.ref y0) ∧ σ = σ2) := by
  refine sg_ofW (cc := cJx4a65c_elementData_915e3) (maxL := 2) (ret := (some (.object "java/lang/Object"))) (by decide) rfl (Nat.le_of_ble_eq_true rfl) (lv := [(0, .ref l0), (1, .int x)]) rfl (fun p e s m below meth c ls H N hrt hnm F hB hl => ?_) sz
  have hx := F.1.1
  have hb := F.1.2.1
  have hown := F.1.2.2.2.1
  obtain ⟨ht, hr1, htr, hsz, hle, hN9⟩ := id hL
  refine lv_aload_n hx hb dJx4a65c_elementData_915e3_0 rfl (lv_at hl 0 rfl) ?_
  refine gr_Jx4a65c_9 F hB dJx4a65c_elementData_915e3_1 (by assumption) (by assumption) ?_
  refine lv_iload_n hx hb dJx4a65c_elementData_915e3_4 rfl (lv_at hl 1 rfl) ?_
  refine sg_aald 10 hx hb F.2.1 hB.1 rfl rfl dJx4a65c_elementData_915e3_5 (by assumption) (by assumption) (by omega) (by omega) ?_
  rw [show sgR _ _ _ = some _ from hy]
  exact sg_aret F hB hrt (Or.inl ⟨_, rfl⟩) (Or.inr ⟨_, rfl⟩) dJx4a65c_elementData_915e3_6 (by decide) (by decide) (⟨rfl, rfl⟩)
theorem dJx4a65c_get_915e3_0 : decode cJx4a65c_get_915e3 0 = .ok (.iload_n 1, 1) := by decide +kernel
theorem dJx4a65c_get_915e3_1 : decode cJx4a65c_get_915e3 1 = .ok (.aload_n 0, 1) := by decide +kernel
theorem dJx4a65c_get_915e3_2 : decode cJx4a65c_get_915e3 2 = .ok (.getfield 48, 3) := by decide +kernel
theorem dJx4a65c_get_915e3_5 : decode cJx4a65c_get_915e3 5 = .ok (.invokestatic 118, 3) := by decide +kernel
theorem dJx4a65c_get_915e3_8 : decode cJx4a65c_get_915e3 8 = .ok (.pop, 1) := by decide +kernel
theorem dJx4a65c_get_915e3_9 : decode cJx4a65c_get_915e3 9 = .ok (.aload_n 0, 1) := by decide +kernel
theorem dJx4a65c_get_915e3_10 : decode cJx4a65c_get_915e3 10 = .ok (.iload_n 1, 1) := by decide +kernel
theorem dJx4a65c_get_915e3_11 : decode cJx4a65c_get_915e3 11 = .ok (.invokevirtual 123, 3) := by decide +kernel
theorem dJx4a65c_get_915e3_14 : decode cJx4a65c_get_915e3 14 = .ok (.areturn, 1) := by decide +kernel
set_option maxRecDepth 100000 in
set_option maxHeartbeats 4000000 in
theorem m_get (l : Launch) (D : va_G) (cy : Nat → ClassId) {eda ca : Nat} {ia : Nat → Nat} {σ : SG} {l0 r sz : Nat} (hL : sgLs σ l0 r sz) (x : Int32) {y0 : Nat} (h1 : 0 ≤ x.toInt) (h2 : x.toInt < sz) (hy : sgR σ r x.toInt.toNat = some y0) (sz : Nat) : sgM l D cy eda ca ia σ sz yJx4a65c_get_915e3 (Cond.code yJx4a65c_get_915e3 cJx4a65c_get_915e3 2 (some (.object "java/lang/Object")) :: mWall) 2 43 0 0 [.ref l0, .int x] (fun v σ2 => v = some (.ref y0) ∧ σ = σ2) := by
  refine sg_ofW (cc := cJx4a65c_get_915e3) (maxL := 2) (ret := (some (.object "java/lang/Object"))) (by decide) rfl (Nat.le_of_ble_eq_true rfl) (lv := [(0, .ref l0), (1, .int x)]) rfl (fun p e s m below meth c ls H N hrt hnm F hB hl => ?_) sz
  have hx := F.1.1
  have hb := F.1.2.1
  have hown := F.1.2.2.2.1
  obtain ⟨ht, hr1, htr, hsz, hle, hN9⟩ := id hL
  refine lv_iload_n hx hb dJx4a65c_get_915e3_0 rfl (lv_at hl 1 rfl) ?_
  refine lv_aload_n hx hb dJx4a65c_get_915e3_1 rfl (lv_at hl 0 rfl) ?_
  refine gf_Jx4a65c_48 F hB dJx4a65c_get_915e3_2 (by assumption) ?_
  refine sg_callS F hB (m_chk l D cy x (sgI σ l0 2) h1 (by omega) _) (va_cwS 2 F.1.2.2.2.2 (mgS2 (mm_3 _ (List.mem_of_getElem? (i := 35) rfl)) (mm_3 _ (List.mem_of_getElem? (i := 36) rfl)) (mm_3 _ (List.mem_of_getElem? (i := 37) rfl)) (mm_3 _ (List.mem_of_getElem? (i := 29) rfl))) rfl rfl rfl ⟨by decide, by decide, by decide +kernel⟩ ⟨Nat.le_of_ble_eq_true rfl, Nat.le_of_ble_eq_true rfl⟩) rfl hl.1 rfl (Nat.le_of_ble_eq_true rfl) dJx4a65c_get_915e3_5 (Nat.le_of_ble_eq_true rfl) (Nat.add_le_add_right (Nat.le_of_ble_eq_true rfl) _)  (fun H locs v σ5 N hBn hX5 hP => ?_)
  clear hB; have hB := hBn; clear hBn
  obtain ⟨rfl, rfl⟩ := hP
  refine lv_pop hx hb dJx4a65c_get_915e3_8 rfl ?_
  refine lv_aload_n hx hb dJx4a65c_get_915e3_9 rfl (lv_at hl 0 rfl) ?_
  refine lv_iload_n hx hb dJx4a65c_get_915e3_10 rfl (lv_at hl 1 rfl) ?_
  refine sg_callV (ci := 4) F hB (m_eld l D cy hL x h1 h2 hy _) (cwV 1 F.1.2.2.2.2 (mgV (mm_3 _ (List.mem_of_getElem? (i := 38) rfl)) (mm_3 _ (List.mem_of_getElem? (i := 39) rfl)) (mm_4 _ (List.mem_of_getElem? (i := 0) rfl)) (mm_0 _ (List.mem_of_getElem? (i := 35) rfl)) (mm_3 _ (List.mem_of_getElem? (i := 33) rfl))) rfl rfl rfl ⟨rfl, by decide, by decide, by decide +kernel⟩ ⟨Nat.le_of_ble_eq_true rfl, Nat.le_of_ble_eq_true rfl⟩) rfl rfl (by decide) rfl hl.1 rfl (Nat.le_of_ble_eq_true rfl) dJx4a65c_get_915e3_11 (Nat.le_of_ble_eq_true rfl) (Nat.add_le_add_right (Nat.le_of_ble_eq_true rfl) _) (by assumption) (fun H locs v σ11 N hBn hX11 hP => ?_)
  clear hB; have hB := hBn; clear hBn
  obtain ⟨rfl, rfl⟩ := hP
  exact sg_aret F hB hrt (Or.inl ⟨_, rfl⟩) (Or.inr ⟨_, rfl⟩) dJx4a65c_get_915e3_14 (by decide) (by decide) (⟨rfl, rfl⟩)
theorem dX14_raises_0 : decode cX14_raises 0 = .ok (.aload_n 0, 1) := by decide +kernel
theorem dX14_raises_1 : decode cX14_raises 1 = .ok (.iload_n 1, 1) := by decide +kernel
theorem dX14_raises_2 : decode cX14_raises 2 = .ok (.putfield 61, 3) := by decide +kernel
theorem dX14_raises_5 : decode cX14_raises 5 = .ok (.iconst 0, 1) := by decide +kernel
theorem dX14_raises_6 : decode cX14_raises 6 = .ok (.ireturn, 1) := by decide +kernel
set_option maxRecDepth 100000 in
set_option maxHeartbeats 4000000 in
theorem m_raises (l : Launch) (D : va_G) (cy : Nat → ClassId) {eda ca : Nat} {ia : Nat → Nat} {σ : SG} {am : Nat} (ht : sgT σ am = 20) (x : Int32) (sz : Nat) : sgM l D cy eda ca ia σ sz yX14_raises (Cond.code yX14_raises cX14_raises 2 (some .int) :: mWall) 0 0 0 0 [.ref am, .int x] (fun v σ2 => v = some (.int 0) ∧ sgPI σ am 0 x = σ2) := by
  refine sg_ofW (cc := cX14_raises) (maxL := 2) (ret := (some .int)) (by decide) rfl (Nat.le_of_ble_eq_true rfl) (lv := [(0, .ref am), (1, .int x)]) rfl (fun p e s m below meth c ls H N hrt hnm F hB hl => ?_) sz
  have hx := F.1.1
  have hb := F.1.2.1
  have hown := F.1.2.2.2.1
  refine lv_aload_n hx hb dX14_raises_0 rfl (lv_at hl 0 rfl) ?_
  refine lv_iload_n hx hb dX14_raises_1 rfl (lv_at hl 1 rfl) ?_
  refine pf_X14_61 F hB dX14_raises_2 (by assumption) (fun H locs hBn => ?_)
  clear hB; have hB := hBn; clear hBn
  refine lv_iconst (v := 0) hx hb dX14_raises_5 (by decide) ?_
  exact sg_iret F hB hrt dX14_raises_6 (by decide) (by decide) (⟨rfl, rfl⟩)
end MM1
