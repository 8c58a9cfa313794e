section MM2
theorem dJx35411_hasNext_aae02_0 : decode cJx35411_hasNext_aae02 0 = .ok (.aload_n 0, 1) := by decide +kernel
theorem dJx35411_hasNext_aae02_1 : decode cJx35411_hasNext_aae02 1 = .ok (.getfield 25, 3) := by decide +kernel
theorem dJx35411_hasNext_aae02_4 : decode cJx35411_hasNext_aae02 4 = .ok (.aload_n 0, 1) := by decide +kernel
theorem dJx35411_hasNext_aae02_5 : decode cJx35411_hasNext_aae02 5 = .ok (.getfield 1, 3) := by decide +kernel
theorem dJx35411_hasNext_aae02_8 : decode cJx35411_hasNext_aae02 8 = .ok (.getfield 28, 3) := by decide +kernel
theorem dJx35411_hasNext_aae02_11 : decode cJx35411_hasNext_aae02 11 = .ok (.if_icmp .eq 7, 3) := by decide +kernel
theorem dJx35411_hasNext_aae02_14 : decode cJx35411_hasNext_aae02 14 = .ok (.iconst 1, 1) := by decide +kernel
theorem dJx35411_hasNext_aae02_15 : decode cJx35411_hasNext_aae02 15 = .ok (.goto 4, 3) := by decide +kernel
theorem dJx35411_hasNext_aae02_18 : decode cJx35411_hasNext_aae02 18 = .ok (.iconst 0, 1) := by decide +kernel
theorem dJx35411_hasNext_aae02_19 : decode cJx35411_hasNext_aae02 19 = .ok (.ireturn, 1) := by decide +kernel
set_option maxRecDepth 100000 in
set_option maxHeartbeats 4000000 in
theorem m_hasNext (l : Launch) (D : va_G) (cy : Nat → ClassId) {eda ca : Nat} {ia : Nat → Nat} {σ : SG} {a0 l0 : Nat} (ht : sgT σ a0 = 4) (hr : sgR σ a0 3 = some l0) (hl0 : sgT σ l0 = 5) (sz : Nat) : sgM l D cy eda ca ia σ sz yJx35411_hasNext_aae02 (Cond.code yJx35411_hasNext_aae02 cJx35411_hasNext_aae02 1 (some .boolean) :: mWall) 0 0 0 0 [.ref a0] (fun v σ2 => ∃ b : Int32, v = some (.int b) ∧ σ = σ2 ∧ sgb b (¬ sgI σ a0 0 = sgI σ l0 2)) := by
  refine sg_ofW (cc := cJx35411_hasNext_aae02) (maxL := 1) (ret := (some .boolean)) (by decide) rfl (Nat.le_of_ble_eq_true rfl) (lv := [(0, .ref a0)]) rfl (fun p e s m below meth c ls H N hrt hnm F hB hl => ?_) sz
  have hx := F.1.1
  have hb := F.1.2.1
  have hown := F.1.2.2.2.1
  refine lv_aload_n hx hb dJx35411_hasNext_aae02_0 rfl (lv_at hl 0 rfl) ?_
  refine gf_Jx35411_25 F hB dJx35411_hasNext_aae02_1 (by assumption) ?_
  refine lv_aload_n hx hb dJx35411_hasNext_aae02_4 rfl (lv_at hl 0 rfl) ?_
  refine gr_Jx35411_1 F hB dJx35411_hasNext_aae02_5 (by assumption) (by assumption) ?_
  refine gf_Jx35411_28 F hB dJx35411_hasNext_aae02_8 (by assumption) ?_
  refine lv_icmp_eq (tgt := 18) hx hb dJx35411_hasNext_aae02_11 (by decide) (fun c11 => ?_) (fun c11 => ?_)
  · refine lv_iconst (v := 0) hx hb dJx35411_hasNext_aae02_18 (by decide) ?_
    exact sg_zret F hB hrt dJx35411_hasNext_aae02_19 (by decide) (by decide) rfl (by first | exact ⟨_, rfl, rfl, sgb_0 (fun z => z c11)⟩ | exact ⟨_, rfl, rfl, sgb_1 c11⟩)
  · refine lv_iconst (v := 1) hx hb dJx35411_hasNext_aae02_14 (by decide) ?_
    refine lv_goto (tgt := 19) hx hb dJx35411_hasNext_aae02_15 (by decide) ?_
    exact sg_zret F hB hrt dJx35411_hasNext_aae02_19 (by decide) (by decide) rfl (by first | exact ⟨_, rfl, rfl, sgb_0 (fun z => z c11)⟩ | exact ⟨_, rfl, rfl, sgb_1 c11⟩)
theorem dJx35411_checkForComodification_da8c8_0 : decode cJx35411_checkForComodification_da8c8 0 = .ok (.aload_n 0, 1) := by decide +kernel
theorem dJx35411_checkForComodification_da8c8_1 : decode cJx35411_checkForComodification_da8c8 1 = .ok (.getfield 1, 3) := by decide +kernel
theorem dJx35411_checkForComodification_da8c8_4 : decode cJx35411_checkForComodification_da8c8 4 = .ok (.getfield 17, 3) := by decide +kernel
theorem dJx35411_checkForComodification_da8c8_7 : decode cJx35411_checkForComodification_da8c8 7 = .ok (.aload_n 0, 1) := by decide +kernel
theorem dJx35411_checkForComodification_da8c8_8 : decode cJx35411_checkForComodification_da8c8 8 = .ok (.getfield 22, 3) := by decide +kernel
theorem dJx35411_checkForComodification_da8c8_11 : decode cJx35411_checkForComodification_da8c8 11 = .ok (.if_icmp .eq 11, 3) := by decide +kernel
theorem dJx35411_checkForComodification_da8c8_22 : decode cJx35411_checkForComodification_da8c8 22 = .ok (.return_, 1) := by decide +kernel
set_option maxRecDepth 100000 in
set_option maxHeartbeats 4000000 in
theorem m_comod (l : Launch) (D : va_G) (cy : Nat → ClassId) {eda ca : Nat} {ia : Nat → Nat} {σ : SG} {a0 l0 : Nat} (ht : sgT σ a0 = 4) (hr : sgR σ a0 3 = some l0) (hl0 : sgT σ l0 = 5) (hm : sgI σ l0 0 = sgI σ a0 2) (sz : Nat) : sgM l D cy eda ca ia σ sz yJx35411_checkForComodification_da8c8 (Cond.code yJx35411_checkForComodification_da8c8 cJx35411_checkForComodification_da8c8 1 none :: mWall) 0 0 0 0 [.ref a0] (fun v σ2 => v = none ∧ σ = σ2) := by
  refine sg_ofW (cc := cJx35411_checkForComodification_da8c8) (maxL := 1) (ret := none) (by decide) rfl (Nat.le_of_ble_eq_true rfl) (lv := [(0, .ref a0)]) rfl (fun p e s m below meth c ls H N hrt hnm F hB hl => ?_) sz
  have hx := F.1.1
  have hb := F.1.2.1
  have hown := F.1.2.2.2.1
  refine lv_aload_n hx hb dJx35411_checkForComodification_da8c8_0 rfl (lv_at hl 0 rfl) ?_
  refine gr_Jx35411_1 F hB dJx35411_checkForComodification_da8c8_1 (by assumption) (by assumption) ?_
  refine gf_Jx35411_17 F hB dJx35411_checkForComodification_da8c8_4 (by assumption) ?_
  refine lv_aload_n hx hb dJx35411_checkForComodification_da8c8_7 rfl (lv_at hl 0 rfl) ?_
  refine gf_Jx35411_22 F hB dJx35411_checkForComodification_da8c8_8 (by assumption) ?_
  refine lv_icmp_eq (tgt := 22) hx hb dJx35411_checkForComodification_da8c8_11 (by decide) (fun c11 => ?_) (fun c11 => (c11 hm).elim)
  exact sg_vret F hB hrt dJx35411_checkForComodification_da8c8_22 (by decide) (by decide) (⟨rfl, rfl⟩)
theorem dJx35411_next_0502b_0 : decode cJx35411_next_0502b 0 = .ok (.aload_n 0, 1) := by decide +kernel
theorem dJx35411_next_0502b_1 : decode cJx35411_next_0502b 1 = .ok (.invokevirtual 31, 3) := by decide +kernel
theorem dJx35411_next_0502b_4 : decode cJx35411_next_0502b 4 = .ok (.aload_n 0, 1) := by decide +kernel
theorem dJx35411_next_0502b_5 : decode cJx35411_next_0502b 5 = .ok (.getfield 25, 3) := by decide +kernel
theorem dJx35411_next_0502b_8 : decode cJx35411_next_0502b 8 = .ok (.istore_n 1, 1) := by decide +kernel
theorem dJx35411_next_0502b_9 : decode cJx35411_next_0502b 9 = .ok (.iload_n 1, 1) := by decide +kernel
theorem dJx35411_next_0502b_10 : decode cJx35411_next_0502b 10 = .ok (.aload_n 0, 1) := by decide +kernel
theorem dJx35411_next_0502b_11 : decode cJx35411_next_0502b 11 = .ok (.getfield 1, 3) := by decide +kernel
theorem dJx35411_next_0502b_14 : decode cJx35411_next_0502b 14 = .ok (.getfield 28, 3) := by decide +kernel
theorem dJx35411_next_0502b_17 : decode cJx35411_next_0502b 17 = .ok (.if_icmp .lt 11, 3) := by decide +kernel
theorem dJx35411_next_0502b_28 : decode cJx35411_next_0502b 28 = .ok (.aload_n 0, 1) := by decide +kernel
theorem dJx35411_next_0502b_29 : decode cJx35411_next_0502b 29 = .ok (.getfield 1, 3) := by decide +kernel
theorem dJx35411_next_0502b_32 : decode cJx35411_next_0502b 32 = .ok (.getfield 37, 3) := by decide +kernel
theorem dJx35411_next_0502b_35 : decode cJx35411_next_0502b 35 = .ok (.astore_n 2, 1) := by decide +kernel
theorem dJx35411_next_0502b_36 : decode cJx35411_next_0502b 36 = .ok (.iload_n 1, 1) := by decide +kernel
theorem dJx35411_next_0502b_37 : decode cJx35411_next_0502b 37 = .ok (.aload_n 2, 1) := by decide +kernel
theorem dJx35411_next_0502b_38 : decode cJx35411_next_0502b 38 = .ok (.arraylength, 1) := by decide +kernel
theorem dJx35411_next_0502b_39 : decode cJx35411_next_0502b 39 = .ok (.if_icmp .lt 11, 3) := by decide +kernel
theorem dJx35411_next_0502b_50 : decode cJx35411_next_0502b 50 = .ok (.aload_n 0, 1) := by decide +kernel
theorem dJx35411_next_0502b_51 : decode cJx35411_next_0502b 51 = .ok (.iload_n 1, 1) := by decide +kernel
theorem dJx35411_next_0502b_52 : decode cJx35411_next_0502b 52 = .ok (.iconst 1, 1) := by decide +kernel
theorem dJx35411_next_0502b_53 : decode cJx35411_next_0502b 53 = .ok (.iadd, 1) := by decide +kernel
theorem dJx35411_next_0502b_54 : decode cJx35411_next_0502b 54 = .ok (.putfield 25, 3) := by decide +kernel
theorem dJx35411_next_0502b_57 : decode cJx35411_next_0502b 57 = .ok (.aload_n 2, 1) := by decide +kernel
theorem dJx35411_next_0502b_58 : decode cJx35411_next_0502b 58 = .ok (.aload_n 0, 1) := by decide +kernel
theorem dJx35411_next_0502b_59 : decode cJx35411_next_0502b 59 = .ok (.iload_n 1, 1) := by decide +kernel
theorem dJx35411_next_0502b_60 : decode cJx35411_next_0502b 60 = .ok (.dup_x1, 1) := by decide +kernel
theorem dJx35411_next_0502b_61 : decode cJx35411_next_0502b 61 = .ok (.putfield 13, 3) := by decide +kernel
theorem dJx35411_next_0502b_64 : decode cJx35411_next_0502b 64 = .ok (.aaload, 1) := by decide +kernel
theorem dJx35411_next_0502b_65 : decode cJx35411_next_0502b 65 = .ok (.areturn, 1) := by decide +kernel
set_option maxRecDepth 100000 in
set_option maxHeartbeats 4000000 in
theorem m_next (l : Launch) (D : va_G) (cy : Nat → ClassId) {eda ca : Nat} {ia : Nat → Nat} {σ : SG} {a0 l0 : Nat} (ht : sgT σ a0 = 4) (hr : sgR σ a0 3 = some l0) (hl0 : sgT σ l0 = 5) (hm : sgI σ l0 0 = sgI σ a0 2) {r sz1 : Nat} (hL : sgLs σ l0 r sz1) {j : Nat} (hj : (sgI σ a0 0).toInt = j) (hlt : j < sz1) {y0 : Nat} (hy : sgR σ r j = some y0) (sz : Nat) : sgM l D cy eda ca ia σ sz yJx35411_next_0502b (Cond.code yJx35411_next_0502b cJx35411_next_0502b 3 (some (.object "java/lang/Object")) :: mWall) 1 20 0 0 [.ref a0] (fun v σ2 => v = some (.ref y0) ∧ sgPI (sgPI σ a0 0 (sgI σ a0 0 + 1)) a0 1 (sgI σ a0 0) = σ2) := by
  refine sg_ofW (cc := cJx35411_next_0502b) (maxL := 3) (ret := (some (.object "java/lang/Object"))) (by decide) rfl (Nat.le_of_ble_eq_true rfl) (lv := [(0, .ref a0)]) rfl (fun p e s m below meth c ls H N hrt hnm F hB hl => ?_) sz
  have hx := F.1.1
  have hb := F.1.2.1
  have hown := F.1.2.2.2.1
  obtain ⟨-, hr1, htr, hsz, hle, hN9⟩ := id hL
  refine lv_aload_n hx hb dJx35411_next_0502b_0 rfl (lv_at hl 0 rfl) ?_
  refine sg_callV (ci := 3) F hB (m_comod l D cy ht hr hl0 hm _) (cwV 0 F.1.2.2.2.2 (mgV (mm_5 _ (List.mem_of_getElem? (i := 3) rfl)) (mm_5 _ (List.mem_of_getElem? (i := 4) rfl)) (mm_5 _ (List.mem_of_getElem? (i := 5) rfl)) (mm_4 _ (List.mem_of_getElem? (i := 35) rfl)) (mm_5 _ (List.mem_of_getElem? (i := 0) rfl))) rfl rfl rfl ⟨rfl, by decide, by decide, by decide +kernel⟩ ⟨Nat.le_of_ble_eq_true rfl, Nat.le_of_ble_eq_true rfl⟩) rfl rfl (by decide) rfl hl.1 rfl (Nat.le_of_ble_eq_true rfl) dJx35411_next_0502b_1 (Nat.le_of_ble_eq_true rfl) (Nat.add_le_add_right (Nat.le_of_ble_eq_true rfl) _) (by assumption) (fun H locs v σ1 N hBn hX1 hP => ?_)
  clear hB; have hB := hBn; clear hBn
  obtain ⟨rfl, rfl⟩ := hP
  refine lv_aload_n hx hb dJx35411_next_0502b_4 rfl (lv_at hl 0 rfl) ?_
  refine gf_Jx35411_25 F hB dJx35411_next_0502b_5 (by assumption) ?_
  refine lv_istore_n (lv' := [(1, .int _), (0, .ref _)]) hx hb dJx35411_next_0502b_8 rfl hl (by decide) rfl (fun ls hl => ?_)
  refine lv_iload_n hx hb dJx35411_next_0502b_9 rfl (lv_at hl 0 rfl) ?_
  refine lv_aload_n hx hb dJx35411_next_0502b_10 rfl (lv_at hl 1 rfl) ?_
  refine gr_Jx35411_1 F hB dJx35411_next_0502b_11 (by assumption) (by assumption) ?_
  refine gf_Jx35411_28 F hB dJx35411_next_0502b_14 (by assumption) ?_
  refine lv_icmp_lt (tgt := 28) hx hb dJx35411_next_0502b_17 (by decide) (fun c17 => ?_) (fun c17 => (c17 (Int32.lt_iff_toInt_lt.mpr (by omega))).elim)
  refine lv_aload_n hx hb dJx35411_next_0502b_28 rfl (lv_at hl 1 rfl) ?_
  refine gr_Jx35411_1 F hB dJx35411_next_0502b_29 (by assumption) (by assumption) ?_
  refine gr_Jx35411_37 F hB dJx35411_next_0502b_32 (by assumption) (by assumption) ?_
  refine lv_astore_n (lv' := [(2, .ref _), (1, .int _), (0, .ref _)]) hx hb dJx35411_next_0502b_35 rfl hl (by decide) rfl (fun ls hl => ?_)
  refine lv_iload_n hx hb dJx35411_next_0502b_36 rfl (lv_at hl 1 rfl) ?_
  refine lv_aload_n hx hb dJx35411_next_0502b_37 rfl (lv_at hl 0 rfl) ?_
  refine sg_alen 10 hx hb F.2.1 hB.1 rfl dJx35411_next_0502b_38 (by assumption) ?_
  refine lv_icmp_lt (tgt := 50) hx hb dJx35411_next_0502b_39 (by decide) (fun c39 => ?_) (fun c39 => (c39 (Int32.lt_iff_toInt_lt.mpr (by rw [nI_toInt (by omega)]; omega))).elim)
  refine lv_aload_n hx hb dJx35411_next_0502b_50 rfl (lv_at hl 2 rfl) ?_
  refine lv_iload_n hx hb dJx35411_next_0502b_51 rfl (lv_at hl 1 rfl) ?_
  refine lv_iconst (v := 1) hx hb dJx35411_next_0502b_52 (by decide) ?_
  refine lv_iadd hx hb dJx35411_next_0502b_53 ?_
  refine pf_Jx35411_25 F hB dJx35411_next_0502b_54 (by assumption) (fun H locs hBn => ?_)
  clear hB; have hB := hBn; clear hBn
  refine lv_aload_n hx hb dJx35411_next_0502b_57 rfl (lv_at hl 0 rfl) ?_
  refine lv_aload_n hx hb dJx35411_next_0502b_58 rfl (lv_at hl 2 rfl) ?_
  refine lv_iload_n hx hb dJx35411_next_0502b_59 rfl (lv_at hl 1 rfl) ?_
  refine lv_dup_x1 hx hb dJx35411_next_0502b_60 rfl rfl ?_
  refine pf_Jx35411_13 F hB dJx35411_next_0502b_61 (by assumption) (fun H locs hBn => ?_)
  clear hB; have hB := hBn; clear hBn
  refine sg_aald 10 hx hb F.2.1 hB.1 rfl rfl dJx35411_next_0502b_64 (by assumption) (by omega) (by show _ < ((sgN σ r : Nat) : Int); omega) (by show sgN σ r < _; omega) ?_
  rw [show sgR _ _ _ = some _ from (by show sgR σ r _ = _; rw [show (sgI σ a0 0).toInt.toNat = j by omega]; exact hy)]
  exact sg_aret F hB hrt (Or.inl ⟨_, rfl⟩) (Or.inr ⟨_, rfl⟩) dJx35411_next_0502b_65 (by decide) (by decide) (⟨rfl, rfl⟩)
theorem dJx35411_init_45d68_0 : decode cJx35411_init_45d68 0 = .ok (.aload_n 0, 1) := by decide +kernel
theorem dJx35411_init_45d68_1 : decode cJx35411_init_45d68 1 = .ok (.aload_n 1, 1) := by decide +kernel
theorem dJx35411_init_45d68_2 : decode cJx35411_init_45d68 2 = .ok (.putfield 1, 3) := by decide +kernel
theorem dJx35411_init_45d68_5 : decode cJx35411_init_45d68 5 = .ok (.aload_n 0, 1) := by decide +kernel
theorem dJx35411_init_45d68_6 : decode cJx35411_init_45d68 6 = .ok (.invokespecial 7, 3) := by decide +kernel
theorem dJx35411_init_45d68_9 : decode cJx35411_init_45d68 9 = .ok (.aload_n 0, 1) := by decide +kernel
theorem dJx35411_init_45d68_10 : decode cJx35411_init_45d68 10 = .ok (.iconst (-1), 1) := by decide +kernel
theorem dJx35411_init_45d68_11 : decode cJx35411_init_45d68 11 = .ok (.putfield 13, 3) := by decide +kernel
theorem dJx35411_init_45d68_14 : decode cJx35411_init_45d68 14 = .ok (.aload_n 0, 1) := by decide +kernel
theorem dJx35411_init_45d68_15 : decode cJx35411_init_45d68 15 = .ok (.aload_n 0, 1) := by decide +kernel
theorem dJx35411_init_45d68_16 : decode cJx35411_init_45d68 16 = .ok (.getfield 1, 3) := by decide +kernel
theorem dJx35411_init_45d68_19 : decode cJx35411_init_45d68 19 = .ok (.getfield 17, 3) := by decide +kernel
theorem dJx35411_init_45d68_22 : decode cJx35411_init_45d68 22 = .ok (.putfield 22, 3) := by decide +kernel
theorem dJx35411_init_45d68_25 : decode cJx35411_init_45d68 25 = .ok (.return_, 1) := by decide +kernel
set_option maxRecDepth 100000 in
set_option maxHeartbeats 4000000 in
theorem m_itr (l : Launch) (D : va_G) (cy : Nat → ClassId) {eda ca : Nat} {ia : Nat → Nat} {σ : SG} {a0 l0 : Nat} (ht : sgT σ a0 = 4) (hl0 : sgT σ l0 = 5) (sz : Nat) : sgM l D cy eda ca ia σ sz yJx35411_init_45d68 (Cond.code yJx35411_init_45d68 cJx35411_init_45d68 2 none :: mWall) 1 14 0 0 [.ref a0, .ref l0] (fun v σ2 => v = none ∧ sgPI (sgPI (sgPR σ a0 3 (some l0)) a0 1 (-1)) a0 2 (sgI σ l0 0) = σ2) := by
  refine sg_ofW (cc := cJx35411_init_45d68) (maxL := 2) (ret := none) (by decide) rfl (Nat.le_of_ble_eq_true rfl) (lv := [(0, .ref a0), (1, .ref l0)]) rfl (fun p e s m below meth c ls H N hrt hnm F hB hl => ?_) sz
  have hx := F.1.1
  have hb := F.1.2.1
  have hown := F.1.2.2.2.1
  refine lv_aload_n hx hb dJx35411_init_45d68_0 rfl (lv_at hl 0 rfl) ?_
  refine lv_aload_n hx hb dJx35411_init_45d68_1 rfl (lv_at hl 1 rfl) ?_
  refine pr_Jx35411_1 F hB dJx35411_init_45d68_2 (by assumption) hnm (fun H locs hBn => ?_)
  clear hB; have hB := hBn; clear hBn
  refine lv_aload_n hx hb dJx35411_init_45d68_5 rfl (lv_at hl 0 rfl) ?_
  refine W.objInit hx hb hown (F.1.2.2.2.2 _ (List.mem_cons_of_mem _ (mm_4 _ (List.mem_of_getElem? (i := 28) rfl)))) (F.1.2.2.2.2 _ (List.mem_cons_of_mem _ (mm_0 _ (List.mem_of_getElem? (i := 2) rfl)))) (F.1.2.2.2.2 _ (List.mem_cons_of_mem _ (mm_0 _ (List.mem_of_getElem? (i := 3) rfl)))) rfl (by rw [F.1.2.2.1]; exact hl.1) rfl dJx35411_init_45d68_6 (Nat.le_of_ble_eq_true rfl) (Nat.le_of_ble_eq_true rfl) ?_
  refine lv_aload_n hx hb dJx35411_init_45d68_9 rfl (lv_at hl 0 rfl) ?_
  refine lv_iconst (v := (-1)) hx hb dJx35411_init_45d68_10 (by decide) ?_
  refine pf_Jx35411_13 F hB dJx35411_init_45d68_11 (by assumption) (fun H locs hBn => ?_)
  clear hB; have hB := hBn; clear hBn
  refine lv_aload_n hx hb dJx35411_init_45d68_14 rfl (lv_at hl 0 rfl) ?_
  refine lv_aload_n hx hb dJx35411_init_45d68_15 rfl (lv_at hl 0 rfl) ?_
  refine gr_Jx35411_1 F hB dJx35411_init_45d68_16 (by assumption) (by show (if a0 = a0 ∧ 3 = 3 then some l0 else _) = _; rw [if_pos ⟨rfl, rfl⟩]) ?_
  refine gf_Jx35411_17 F hB dJx35411_init_45d68_19 (by exact hl0) ?_
  refine pf_Jx35411_22 F hB dJx35411_init_45d68_22 (by assumption) (fun H locs hBn => ?_)
  clear hB; have hB := hBn; clear hBn
  exact sg_vret F hB hrt dJx35411_init_45d68_25 (by decide) (by decide) (⟨rfl, by rw [show sgI (sgPI (sgPR σ a0 3 (some l0)) a0 1 (-1)) l0 0 = sgI σ l0 0 from if_neg (fun z => by cases z.2)]⟩)
theorem dJxd2413_init_da8c8_0 : decode cJxd2413_init_da8c8 0 = .ok (.aload_n 0, 1) := by decide +kernel
theorem dJxd2413_init_da8c8_1 : decode cJxd2413_init_da8c8 1 = .ok (.invokespecial 1, 3) := by decide +kernel
theorem dJxd2413_init_da8c8_4 : decode cJxd2413_init_da8c8 4 = .ok (.return_, 1) := by decide +kernel
set_option maxRecDepth 100000 in
set_option maxHeartbeats 4000000 in
theorem m_num (l : Launch) (D : va_G) (cy : Nat → ClassId) {eda ca : Nat} {ia : Nat → Nat} {σ : SG} {a0 : Nat} (sz : Nat) : sgM l D cy eda ca ia σ sz yJxd2413_init_da8c8 (Cond.code yJxd2413_init_da8c8 cJxd2413_init_da8c8 1 none :: mWall) 1 14 0 0 [.ref a0] (fun v σ2 => v = none ∧ σ = σ2) := by
  refine sg_ofW (cc := cJxd2413_init_da8c8) (maxL := 1) (ret := none) (by decide) rfl (Nat.le_of_ble_eq_true rfl) (lv := [(0, .ref a0)]) rfl (fun p e s m below meth c ls H N hrt hnm F hB hl => ?_) sz
  have hx := F.1.1
  have hb := F.1.2.1
  have hown := F.1.2.2.2.1
  refine lv_aload_n hx hb dJxd2413_init_da8c8_0 rfl (lv_at hl 0 rfl) ?_
  refine W.objInit hx hb hown (F.1.2.2.2.2 _ (List.mem_cons_of_mem _ (mm_7 _ (List.mem_of_getElem? (i := 19) rfl)))) (F.1.2.2.2.2 _ (List.mem_cons_of_mem _ (mm_0 _ (List.mem_of_getElem? (i := 2) rfl)))) (F.1.2.2.2.2 _ (List.mem_cons_of_mem _ (mm_0 _ (List.mem_of_getElem? (i := 3) rfl)))) rfl (by rw [F.1.2.2.1]; exact hl.1) rfl dJxd2413_init_da8c8_1 (Nat.le_of_ble_eq_true rfl) (Nat.le_of_ble_eq_true rfl) ?_
  exact sg_vret F hB hrt dJxd2413_init_da8c8_4 (by decide) (by decide) (⟨rfl, rfl⟩)
theorem dJ6_init_d00df_0 : decode cJ6_init_d00df 0 = .ok (.aload_n 0, 1) := by decide +kernel
theorem dJ6_init_d00df_1 : decode cJ6_init_d00df 1 = .ok (.invokespecial 202, 3) := by decide +kernel
theorem dJ6_init_d00df_4 : decode cJ6_init_d00df 4 = .ok (.aload_n 0, 1) := by decide +kernel
theorem dJ6_init_d00df_5 : decode cJ6_init_d00df 5 = .ok (.iload_n 1, 1) := by decide +kernel
theorem dJ6_init_d00df_6 : decode cJ6_init_d00df 6 = .ok (.putfield 205, 3) := by decide +kernel
theorem dJ6_init_d00df_9 : decode cJ6_init_d00df 9 = .ok (.return_, 1) := by decide +kernel
set_option maxRecDepth 100000 in
set_option maxHeartbeats 4000000 in
theorem m_int (l : Launch) (D : va_G) (cy : Nat → ClassId) {eda ca : Nat} {ia : Nat → Nat} {σ : SG} {a0 : Nat} (ht : sgT σ a0 = 2) (x : Int32) (sz : Nat) : sgM l D cy eda ca ia σ sz yJ6_init_d00df (Cond.code yJ6_init_d00df cJ6_init_d00df 2 none :: mWall) 2 34 0 0 [.ref a0, .int x] (fun v σ2 => v = none ∧ sgPI σ a0 0 x = σ2) := by
  refine sg_ofW (cc := cJ6_init_d00df) (maxL := 2) (ret := none) (by decide) rfl (Nat.le_of_ble_eq_true rfl) (lv := [(0, .ref a0), (1, .int x)]) rfl (fun p e s m below meth c ls H N hrt hnm F hB hl => ?_) sz
  have hx := F.1.1
  have hb := F.1.2.1
  have hown := F.1.2.2.2.1
  refine lv_aload_n hx hb dJ6_init_d00df_0 rfl (lv_at hl 0 rfl) ?_
  refine sg_callI F hB (m_num l D cy  _) (cwI 0 F.1.2.2.2.2 (mgN (mm_7 _ (List.mem_of_getElem? (i := 18) rfl))) rfl rfl rfl (F.1.2.2.2.2 _ (List.mem_cons_of_mem _ (mm_7 _ (List.mem_of_getElem? (i := 24) rfl)))) (F.1.2.2.2.2 _ (List.mem_cons_of_mem _ (mm_7 _ (List.mem_of_getElem? (i := 22) rfl)))) (F.1.2.2.2.2 _ (List.mem_cons_of_mem _ (mm_7 _ (List.mem_of_getElem? (i := 23) rfl)))) rfl ⟨by decide, by decide, by decide +kernel⟩ ⟨Nat.le_of_ble_eq_true rfl, Nat.le_of_ble_eq_true rfl⟩) rfl hl.1 rfl (Nat.le_of_ble_eq_true rfl) dJ6_init_d00df_1 (Nat.le_of_ble_eq_true rfl) (Nat.add_le_add_right (Nat.le_of_ble_eq_true rfl) _)  (fun H locs v σ1 N hBn hX1 hP => ?_)
  clear hB; have hB := hBn; clear hBn
  obtain ⟨rfl, rfl⟩ := hP
  refine lv_aload_n hx hb dJ6_init_d00df_4 rfl (lv_at hl 0 rfl) ?_
  refine lv_iload_n hx hb dJ6_init_d00df_5 rfl (lv_at hl 1 rfl) ?_
  refine pf_J6_205 F hB dJ6_init_d00df_6 (by assumption) hnm (fun H locs hBn => ?_)
  clear hB; have hB := hBn; clear hBn
  exact sg_vret F hB hrt dJ6_init_d00df_9 (by decide) (by decide) (⟨rfl, rfl⟩)
end MM2
